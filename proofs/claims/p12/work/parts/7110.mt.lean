set_option maxHeartbeats 4000000 in
theorem mt_71_0 {J : xe_J} {ov : List (List Int32)} (hJ : ∀ d mj as h, mj ≠ xe_loff → J d mj as h = none) (hov1 : ov[1]? = some [10, 0, 0, 0, 0, 0]) (hov2 : ov[2]? = some [99, 30, 50, 50, 1, 99999]) {d : Nat} {Q : Option Value → xe_H → Prop} {h : xe_H} {x1 : Int32} (T : xt h) (b1 : (0 ≤ x1.toInt ∧ x1.toInt ≤ 1)) (kk : (∀ (r : Int32) (h' : xe_H), (0 ≤ r.toInt ∧ r.toInt ≤ 1) → xk [(0, 9), (115, 1), (83, 0), (29, 0), (31, 0), (33, 0), (35, 0), (37, 0), (39, 0), (41, 0), (43, 0), (45, 0), (47, 0), (49, 0), (51, 0), (125, 0), (66, 8), (115, 18), (71, 0), (132, 0)] h h' → Q (some (.int r)) h')) : xw J ov (d + 1) 71 (0, [(0, .ref 115), (1, .int x1)], [], h) Q := by
  have K : xk [(0, 9), (115, 1), (83, 0), (29, 0), (31, 0), (33, 0), (35, 0), (37, 0), (39, 0), (41, 0), (43, 0), (45, 0), (47, 0), (49, 0), (51, 0), (125, 0), (66, 8), (115, 18), (71, 0), (132, 0)] h h := xk_re T
  refine xi_aload_n (pc' := 1) (x := 115) kc_71_0 rfl rfl ?_
  refine xi_iconst (pc' := 2) (v := 0) kc_71_1 rfl rfl ?_
  refine xp_115 K.1 (fun u1 u2 u3 u4 u5 u6 u7 u8 u9 u10 u11 u12 u13 bu1 bu2 bu3 bu4 bu5 bu6 bu7 bu8 bu9 bu10 bu11 bu12 bu13 A14 => ?_)
  refine xi_putfield (pc' := 5) (fs' := [.int 0, .int u2, .ref 116, .ref 117, .ref 118, .ref 119, .ref 120, .ref 121, .ref 122, .ref 123, .ref 124, .ref 125, .ref 126, .ref 127, .ref 128, .ref 129, .int u3, .ref 130, .int u4, .ref 131, .ref 132, .ref 133, .ref 134, .int u5, .ref 135, .ref 136, .ref 137, .ref 138, .ref 139, .ref 140, .ref 141, .ref 142, .int u6, .int u7, .int u8, .ref 143, .ref 144, .ref 145, .ref 146, .ref 147, .ref 148, .int u9, .ref 149, .ref 150, .ref 151, .int u10, .ref 152, .ref 153, .ref 154, .ref 155, .ref 156, .ref 157, .ref 158, .ref 159, .int u11, .ref 160, .int u12, .ref 161, .ref 162, .ref 163, .ref 164, .int u13, .ref 165, .ref 166]) kc_71_2 rfl rfl rfl A14 rfl rfl rfl (Nat.le_of_ble_eq_true rfl) rfl (fun hh16 eh15 => ?_)
  have K17 := xk_pf (k := 0) (v := 0) K (xk_wf rfl) xD_115 A14 rfl (by first | omega | decide) (by first | omega | decide) eh15 rfl
  refine xi_aload_n (pc' := 6) (x := 115) kc_71_5 rfl rfl ?_
  refine xi_getfield (pc' := 9) (v := .int u13) kc_71_6 rfl rfl rfl eh15.1 rfl ?_
  refine xi_istore_n (pc' := 10) (lv' := [(2, .int u13), (0, .ref 115), (1, .int x1)]) kc_71_9 rfl rfl (xm_lt ml_71 rfl) ?_
  refine xi_aload_n (pc' := 11) (x := 115) kc_71_10 rfl rfl ?_
  refine xi_iload_n (pc' := 12) (x := x1) kc_71_11 rfl rfl ?_
  by_cases c18 : x1.toInt = 0
  · have qx1 : x1 = 0 := xc_of (Eq.trans (by omega) (show (0 : Int) = (0 : Int32).toInt by decide))
    subst qx1
    refine xi_putfield (pc' := 15) (fs' := [.int 0, .int u2, .ref 116, .ref 117, .ref 118, .ref 119, .ref 120, .ref 121, .ref 122, .ref 123, .ref 124, .ref 125, .ref 126, .ref 127, .ref 128, .ref 129, .int u3, .ref 130, .int u4, .ref 131, .ref 132, .ref 133, .ref 134, .int u5, .ref 135, .ref 136, .ref 137, .ref 138, .ref 139, .ref 140, .ref 141, .ref 142, .int u6, .int u7, .int u8, .ref 143, .ref 144, .ref 145, .ref 146, .ref 147, .ref 148, .int u9, .ref 149, .ref 150, .ref 151, .int u10, .ref 152, .ref 153, .ref 154, .ref 155, .ref 156, .ref 157, .ref 158, .ref 159, .int u11, .ref 160, .int u12, .ref 161, .ref 162, .ref 163, .ref 164, .int 0, .ref 165, .ref 166]) kc_71_12 rfl rfl rfl eh15.1 rfl rfl rfl (Nat.le_of_ble_eq_true rfl) rfl (fun hh20 eh19 => ?_)
    have K21 := xk_pf (k := 61) (v := 0) K17 (xk_wf rfl) xD_115 eh15.1 rfl (by first | omega | decide) (by first | omega | decide) eh19 rfl
    refine xi_iload_n (pc' := 16) (x := u13) kc_71_15 rfl rfl ?_
    refine xi_iload_n (pc' := 17) (x := 0) kc_71_16 rfl rfl ?_
    by_cases c22 : u13.toInt = 0
    · refine xi_cmf (pc' := 20) kc_71_17 rfl (xc_ne_f (X := u13.toInt) (Y := 0) rfl (by decide) (by omega)) ?_
      refine xi_iconst (pc' := 21) (v := 0) kc_71_20 rfl rfl ?_
      refine xi_goto (pc' := 25) kc_71_21 rfl ?_
      refine xi_ireturn kc_71_25 mr_71 rfl ?_
      have zc0 : (0 : Int32).toInt = 0 := by decide
      exact kk 0 hh20 (by omega) K21
    · refine xi_cmt (pc' := 24) kc_71_17 rfl (xc_ne_t (X := u13.toInt) (Y := 0) rfl (by decide) (by omega)) ?_
      refine xi_iconst (pc' := 25) (v := 1) kc_71_24 rfl rfl ?_
      refine xi_ireturn kc_71_25 mr_71 rfl ?_
      have zc1 : (1 : Int32).toInt = 1 := by decide
      exact kk 1 hh20 (by omega) K21
  have qx1 : x1 = 1 := xc_of (Eq.trans (by omega) (show (1 : Int) = (1 : Int32).toInt by decide))
  subst qx1
  refine xi_putfield (pc' := 15) (fs' := [.int 0, .int u2, .ref 116, .ref 117, .ref 118, .ref 119, .ref 120, .ref 121, .ref 122, .ref 123, .ref 124, .ref 125, .ref 126, .ref 127, .ref 128, .ref 129, .int u3, .ref 130, .int u4, .ref 131, .ref 132, .ref 133, .ref 134, .int u5, .ref 135, .ref 136, .ref 137, .ref 138, .ref 139, .ref 140, .ref 141, .ref 142, .int u6, .int u7, .int u8, .ref 143, .ref 144, .ref 145, .ref 146, .ref 147, .ref 148, .int u9, .ref 149, .ref 150, .ref 151, .int u10, .ref 152, .ref 153, .ref 154, .ref 155, .ref 156, .ref 157, .ref 158, .ref 159, .int u11, .ref 160, .int u12, .ref 161, .ref 162, .ref 163, .ref 164, .int 1, .ref 165, .ref 166]) kc_71_12 rfl rfl rfl eh15.1 rfl rfl rfl (Nat.le_of_ble_eq_true rfl) rfl (fun hh24 eh23 => ?_)
  have K25 := xk_pf (k := 61) (v := 1) K17 (xk_wf rfl) xD_115 eh15.1 rfl (by first | omega | decide) (by first | omega | decide) eh23 rfl
  refine xi_iload_n (pc' := 16) (x := u13) kc_71_15 rfl rfl ?_
  refine xi_iload_n (pc' := 17) (x := 1) kc_71_16 rfl rfl ?_
  by_cases c26 : u13.toInt = 1
  · refine xi_cmf (pc' := 20) kc_71_17 rfl (xc_ne_f (X := u13.toInt) (Y := 1) rfl (by decide) (by omega)) ?_
    refine xi_iconst (pc' := 21) (v := 0) kc_71_20 rfl rfl ?_
    refine xi_goto (pc' := 25) kc_71_21 rfl ?_
    refine xi_ireturn kc_71_25 mr_71 rfl ?_
    have zc0 : (0 : Int32).toInt = 0 := by decide
    exact kk 0 hh24 (by omega) K25
  · refine xi_cmt (pc' := 24) kc_71_17 rfl (xc_ne_t (X := u13.toInt) (Y := 1) rfl (by decide) (by omega)) ?_
    refine xi_iconst (pc' := 25) (v := 1) kc_71_24 rfl rfl ?_
    refine xi_ireturn kc_71_25 mr_71 rfl ?_
    have zc1 : (1 : Int32).toInt = 1 := by decide
    exact kk 1 hh24 (by omega) K25
set_option maxHeartbeats 4000000 in
theorem mt_72_0 {J : xe_J} {ov : List (List Int32)} (hJ : ∀ d mj as h, mj ≠ xe_loff → J d mj as h = none) (hov1 : ov[1]? = some [10, 0, 0, 0, 0, 0]) (hov2 : ov[2]? = some [99, 30, 50, 50, 1, 99999]) {d : Nat} {Q : Option Value → xe_H → Prop} {h : xe_H} {x1 : Int32} {x2 : Int32} {x3 : Int32} (T : xt h) (b1 : (0 ≤ x1.toInt ∧ x1.toInt ≤ 1)) (b3 : (0 ≤ x3.toInt ∧ x3.toInt ≤ 1)) (kk : (∀ (r : Int32) (h' : xe_H), ((-2) ≤ r.toInt ∧ r.toInt ≤ 1) → xk [(0, 9), (115, 1), (83, 0), (29, 0), (31, 0), (33, 0), (35, 0), (37, 0), (39, 0), (41, 0), (43, 0), (45, 0), (47, 0), (49, 0), (51, 0), (125, 0), (66, 8), (115, 18), (71, 0), (132, 0)] h h' → Q (some (.int r)) h')) : xw J ov (d + 1) 72 (0, [(0, .ref 115), (1, .int x1), (2, .int x2), (3, .int x3)], [], h) Q := by
  have K : xk [(0, 9), (115, 1), (83, 0), (29, 0), (31, 0), (33, 0), (35, 0), (37, 0), (39, 0), (41, 0), (43, 0), (45, 0), (47, 0), (49, 0), (51, 0), (125, 0), (66, 8), (115, 18), (71, 0), (132, 0)] h h := xk_re T
  have rx2 := xc_rng x2
  refine xi_aload_n (pc' := 1) (x := 115) kc_72_0 rfl rfl ?_
  refine xi_iconst (pc' := 2) (v := 0) kc_72_1 rfl rfl ?_
  refine xp_115 K.1 (fun u1 u2 u3 u4 u5 u6 u7 u8 u9 u10 u11 u12 u13 bu1 bu2 bu3 bu4 bu5 bu6 bu7 bu8 bu9 bu10 bu11 bu12 bu13 A14 => ?_)
  refine xi_putfield (pc' := 5) (fs' := [.int 0, .int u2, .ref 116, .ref 117, .ref 118, .ref 119, .ref 120, .ref 121, .ref 122, .ref 123, .ref 124, .ref 125, .ref 126, .ref 127, .ref 128, .ref 129, .int u3, .ref 130, .int u4, .ref 131, .ref 132, .ref 133, .ref 134, .int u5, .ref 135, .ref 136, .ref 137, .ref 138, .ref 139, .ref 140, .ref 141, .ref 142, .int u6, .int u7, .int u8, .ref 143, .ref 144, .ref 145, .ref 146, .ref 147, .ref 148, .int u9, .ref 149, .ref 150, .ref 151, .int u10, .ref 152, .ref 153, .ref 154, .ref 155, .ref 156, .ref 157, .ref 158, .ref 159, .int u11, .ref 160, .int u12, .ref 161, .ref 162, .ref 163, .ref 164, .int u13, .ref 165, .ref 166]) kc_72_2 rfl rfl rfl A14 rfl rfl rfl (Nat.le_of_ble_eq_true rfl) rfl (fun hh16 eh15 => ?_)
  have K17 := xk_pf (k := 0) (v := 0) K (xk_wf rfl) xD_115 A14 rfl (by first | omega | decide) (by first | omega | decide) eh15 rfl
  refine xi_iload_n (pc' := 6) (x := x2) kc_72_5 rfl rfl ?_
  refine xi_iconst (pc' := 7) (v := 0) kc_72_6 rfl rfl ?_
  refine xi_iconst (pc' := 8) (v := 3) kc_72_7 rfl rfl ?_
  refine xi_static (mj := 11) (as := [.int x2, .int 0, .int 3]) (st1 := []) (lv0 := [(0, .int x2), (1, .int 0), (2, .int 3)]) kc_72_8 rfl rfl (Nat.le_of_ble_eq_true rfl) rfl rfl (Nat.le_of_ble_eq_true rfl) (hJ _ _ _ _ (by decide)) (xm_le ml_11 rfl) rfl ?_
  refine xi_iload_n (pc' := 1) (x := x2) kc_11_0 rfl rfl ?_
  refine xi_iload_n (pc' := 2) (x := 0) kc_11_1 rfl rfl ?_
  by_cases c18 : x2.toInt < 0
  · refine xi_cmt (pc' := 14) kc_11_2 rfl (xc_lt_t (X := x2.toInt) (Y := 0) rfl (by decide) (by omega)) ?_
    refine xi_iconst (pc' := 15) (v := 0) kc_11_14 rfl rfl ?_
    refine xi_ireturn kc_11_15 mr_11 rfl ?_
    show xw J ov (d + 1) 72 (11, [(0, .ref 115), (1, .int x1), (2, .int x2), (3, .int x3)], [.int 0], hh16) _
    refine xi_iff (pc' := 14) kc_72_11 rfl rfl ?_
    refine xi_aload_n (pc' := 15) (x := 115) kc_72_14 rfl rfl ?_
    refine xi_bipush (pc' := 17) (v := (-2)) kc_72_15 rfl rfl ?_
    refine xi_virtual (mj := 12) (as := [.int (-2)]) (st1 := []) (lv0 := [(0, .ref 115), (1, .int (-2))]) kc_72_17 rfl rfl rfl rfl rfl eh15.1 (Nat.le_of_ble_eq_true rfl) (hJ _ _ _ _ (by decide)) (xm_le ml_12 rfl) rfl ?_
    refine xi_aload_n (pc' := 1) (x := 115) kc_12_0 rfl rfl ?_
    refine xi_getfield (pc' := 4) (v := .ref 140) kc_12_1 rfl rfl rfl eh15.1 rfl ?_
    refine xi_iload_n (pc' := 5) (x := (-2)) kc_12_4 rfl rfl ?_
    refine xi_ineg (pc' := 6) (v := 2) kc_12_5 rfl rfl ?_
    refine xi_dup2 (pc' := 7) kc_12_6 rfl ⟨rfl, rfl⟩ ?_
    refine xcps4 (xk_arr K17.1 xD_140) (fun y19 A19 hy19 ry19 => ?_)
    refine xcps4 (xj_get hy19 ry19 (i := 2) (by decide) (by decide)) (fun v20 ev20 bv20 dv20 => ?_)
    refine xi_iaload (pc' := 8) (v := v20) kc_12_7 rfl A19 (by decide) rfl (xi_in (by decide) (by rw [hy19]; decide)) ev20 ?_
    refine xi_iconst (pc' := 9) (v := 1) kc_12_8 rfl rfl ?_
    refine xcps2 (α := Int32) ((v20 : Int32) + 1) (fun v21 ev21 => ?_)
    have rv21 := xc_rng v21
    refine xi_iadd (pc' := 10) (v := v21) kc_12_9 rfl ev21 ?_
    refine xcps4 (xj_set (v := v21) hy19 ry19 2 (by first | omega | decide) (by first | omega | decide)) (fun y22 s22 hy22 ry22 => ?_)
    refine xi_iastore (pc' := 11) (x' := y22) kc_12_10 rfl A19 rfl (xi_in (by decide) (by rw [hy19]; decide)) s22 (fun hh22 eh22 => ?_)
    have K23 := xk_pa K17 (xk_wa rfl) xD_140 hy22 ry22 eh22
    refine xi_iload_n (pc' := 12) (x := (-2)) kc_12_11 rfl rfl ?_
    refine xi_ireturn kc_12_12 mr_12 rfl ?_
    show xw J ov (d + 1) 72 (20, [(0, .ref 115), (1, .int x1), (2, .int x2), (3, .int x3)], [.int (-2)], hh22) _
    refine xi_ireturn kc_72_20 mr_72 rfl ?_
    have zcm2 : ((-2) : Int32).toInt = (-2) := by decide
    exact kk (-2) hh22 (by omega) K23
  · refine xi_cmf (pc' := 5) kc_11_2 rfl (xc_lt_f (X := x2.toInt) (Y := 0) rfl (by decide) (by omega)) ?_
    refine xi_iload_n (pc' := 6) (x := x2) kc_11_5 rfl rfl ?_
    refine xi_iload_n (pc' := 7) (x := 3) kc_11_6 rfl rfl ?_
    by_cases c24 : 3 < x2.toInt
    · refine xi_cmt (pc' := 14) kc_11_7 rfl (xc_gt_t (X := x2.toInt) (Y := 3) rfl (by decide) (by omega)) ?_
      refine xi_iconst (pc' := 15) (v := 0) kc_11_14 rfl rfl ?_
      refine xi_ireturn kc_11_15 mr_11 rfl ?_
      show xw J ov (d + 1) 72 (11, [(0, .ref 115), (1, .int x1), (2, .int x2), (3, .int x3)], [.int 0], hh16) _
      refine xi_iff (pc' := 14) kc_72_11 rfl rfl ?_
      refine xi_aload_n (pc' := 15) (x := 115) kc_72_14 rfl rfl ?_
      refine xi_bipush (pc' := 17) (v := (-2)) kc_72_15 rfl rfl ?_
      refine xi_virtual (mj := 12) (as := [.int (-2)]) (st1 := []) (lv0 := [(0, .ref 115), (1, .int (-2))]) kc_72_17 rfl rfl rfl rfl rfl eh15.1 (Nat.le_of_ble_eq_true rfl) (hJ _ _ _ _ (by decide)) (xm_le ml_12 rfl) rfl ?_
      refine xi_aload_n (pc' := 1) (x := 115) kc_12_0 rfl rfl ?_
      refine xi_getfield (pc' := 4) (v := .ref 140) kc_12_1 rfl rfl rfl eh15.1 rfl ?_
      refine xi_iload_n (pc' := 5) (x := (-2)) kc_12_4 rfl rfl ?_
      refine xi_ineg (pc' := 6) (v := 2) kc_12_5 rfl rfl ?_
      refine xi_dup2 (pc' := 7) kc_12_6 rfl ⟨rfl, rfl⟩ ?_
      refine xcps4 (xk_arr K17.1 xD_140) (fun y25 A25 hy25 ry25 => ?_)
      refine xcps4 (xj_get hy25 ry25 (i := 2) (by decide) (by decide)) (fun v26 ev26 bv26 dv26 => ?_)
      refine xi_iaload (pc' := 8) (v := v26) kc_12_7 rfl A25 (by decide) rfl (xi_in (by decide) (by rw [hy25]; decide)) ev26 ?_
      refine xi_iconst (pc' := 9) (v := 1) kc_12_8 rfl rfl ?_
      refine xcps2 (α := Int32) ((v26 : Int32) + 1) (fun v27 ev27 => ?_)
      have rv27 := xc_rng v27
      refine xi_iadd (pc' := 10) (v := v27) kc_12_9 rfl ev27 ?_
      refine xcps4 (xj_set (v := v27) hy25 ry25 2 (by first | omega | decide) (by first | omega | decide)) (fun y28 s28 hy28 ry28 => ?_)
      refine xi_iastore (pc' := 11) (x' := y28) kc_12_10 rfl A25 rfl (xi_in (by decide) (by rw [hy25]; decide)) s28 (fun hh28 eh28 => ?_)
      have K29 := xk_pa K17 (xk_wa rfl) xD_140 hy28 ry28 eh28
      refine xi_iload_n (pc' := 12) (x := (-2)) kc_12_11 rfl rfl ?_
      refine xi_ireturn kc_12_12 mr_12 rfl ?_
      show xw J ov (d + 1) 72 (20, [(0, .ref 115), (1, .int x1), (2, .int x2), (3, .int x3)], [.int (-2)], hh28) _
      refine xi_ireturn kc_72_20 mr_72 rfl ?_
      have zcm2 : ((-2) : Int32).toInt = (-2) := by decide
      exact kk (-2) hh28 (by omega) K29
    · refine xi_cmf (pc' := 10) kc_11_7 rfl (xc_gt_f (X := x2.toInt) (Y := 3) rfl (by decide) (by omega)) ?_
      refine xi_iconst (pc' := 11) (v := 1) kc_11_10 rfl rfl ?_
      refine xi_goto (pc' := 15) kc_11_11 rfl ?_
      refine xi_ireturn kc_11_15 mr_11 rfl ?_
      show xw J ov (d + 1) 72 (11, [(0, .ref 115), (1, .int x1), (2, .int x2), (3, .int x3)], [.int 1], hh16) _
      refine xi_ift (pc' := 21) kc_72_11 rfl rfl ?_
      refine xi_aload_n (pc' := 22) (x := 115) kc_72_21 rfl rfl ?_
      refine xi_getfield (pc' := 25) (v := .ref 165) kc_72_22 rfl rfl rfl eh15.1 rfl ?_
      refine xi_iconst (pc' := 26) (v := 2) kc_72_25 rfl rfl ?_
      refine xi_iload_n (pc' := 27) (x := x2) kc_72_26 rfl rfl ?_
      refine xcps2 (α := Int32) (2 * x2) (fun v30 ev30 => ?_)
      have zv30 : v30.toInt = (2) * x2.toInt := by rw [← ev30]; exact (xz_mul (X := 2) (Y := x2.toInt) (by decide) rfl (by omega) (by omega)).trans (by omega)
      refine xi_imul (pc' := 28) (v := v30) kc_72_27 rfl ev30 ?_
      refine xi_iload_n (pc' := 29) (x := x1) kc_72_28 rfl rfl ?_
      by_cases c31 : x1.toInt = 0
      · refine xi_ift (pc' := 36) kc_72_29 rfl (xc_eq_t (X := x1.toInt) (Y := 0) rfl (by decide) (by omega)) ?_
        refine xi_iconst (pc' := 37) (v := 0) kc_72_36 rfl rfl ?_
        refine xcps2 (α := Int32) (v30 + 0) (fun v32 ev32 => ?_)
        have zv32 : v32.toInt = (2) * x2.toInt := by rw [← ev32]; exact (xz_add (X := (2) * x2.toInt) (Y := 0) zv30 (by decide) (by omega) (by omega)).trans (by omega)
        refine xi_iadd (pc' := 38) (v := v32) kc_72_37 rfl ev32 ?_
        refine xi_iload_n (pc' := 39) (x := x3) kc_72_38 rfl rfl ?_
        by_cases c33 : x3.toInt = 0
        · refine xi_ift (pc' := 46) kc_72_39 rfl (xc_eq_t (X := x3.toInt) (Y := 0) rfl (by decide) (by omega)) ?_
          refine xi_iconst (pc' := 47) (v := 0) kc_72_46 rfl rfl ?_
          refine xcps4 (xk_arr K17.1 xD_165) (fun y34 A34 hy34 ry34 => ?_)
          refine xcps4 (xj_set (v := 0) hy34 ry34 v32 (by first | omega | decide) (by first | omega | decide)) (fun y35 s35 hy35 ry35 => ?_)
          refine xi_iastore (pc' := 48) (x' := y35) kc_72_47 rfl A34 rfl (xi_in (by rw [zv32]; omega) (by rw [hy34]; rw [zv32]; omega)) s35 (fun hh35 eh35 => ?_)
          have K36 := xk_pa K17 (xk_wa rfl) xD_165 hy35 ry35 eh35
          refine xi_aload_n (pc' := 49) (x := 115) kc_72_48 rfl rfl ?_
          have A37 := ((eh35.2.1 115 (by decide)).trans eh15.1)
          refine xi_getfield (pc' := 52) (v := .ref 166) kc_72_49 rfl rfl rfl A37 rfl ?_
          refine xi_iload_n (pc' := 53) (x := x2) kc_72_52 rfl rfl ?_
          refine xi_iload_n (pc' := 54) (x := x3) kc_72_53 rfl rfl ?_
          refine xi_ift (pc' := 64) kc_72_54 rfl (xc_eq_t (X := x3.toInt) (Y := 0) rfl (by decide) (by omega)) ?_
          refine xi_aload_n (pc' := 65) (x := 115) kc_72_64 rfl rfl ?_
          refine xi_getfield (pc' := 68) (v := .ref 166) kc_72_65 rfl rfl rfl A37 rfl ?_
          refine xi_iload_n (pc' := 69) (x := x2) kc_72_68 rfl rfl ?_
          refine xcps4 (xk_arr K36.1 xD_166) (fun y38 A38 hy38 ry38 => ?_)
          refine xcps4 (xj_get hy38 ry38 (i := x2) (by omega) (by omega)) (fun v39 ev39 bv39 dv39 => ?_)
          refine xi_iaload (pc' := 70) (v := v39) kc_72_69 rfl A38 (by decide) rfl (xi_in (by omega) (by rw [hy38]; omega)) ev39 ?_
          refine xcps4 (xj_set (v := v39) hy38 ry38 x2 (by first | omega | decide) (by first | omega | decide)) (fun y40 s40 hy40 ry40 => ?_)
          refine xi_iastore (pc' := 71) (x' := y40) kc_72_70 rfl A38 rfl (xi_in (by omega) (by rw [hy38]; omega)) s40 (fun hh40 eh40 => ?_)
          have K41 := xk_pa K36 (xk_wa rfl) xD_166 hy40 ry40 eh40
          refine xi_iconst (pc' := 72) (v := 1) kc_72_71 rfl rfl ?_
          refine xi_ireturn kc_72_72 mr_72 rfl ?_
          have zc1 : (1 : Int32).toInt = 1 := by decide
          exact kk 1 hh40 (by omega) K41
        · refine xi_iff (pc' := 42) kc_72_39 rfl (xc_eq_f (X := x3.toInt) (Y := 0) rfl (by decide) (by omega)) ?_
          refine xi_iconst (pc' := 43) (v := 1) kc_72_42 rfl rfl ?_
          refine xi_goto (pc' := 47) kc_72_43 rfl ?_
          refine xcps4 (xk_arr K17.1 xD_165) (fun y42 A42 hy42 ry42 => ?_)
          refine xcps4 (xj_set (v := 1) hy42 ry42 v32 (by first | omega | decide) (by first | omega | decide)) (fun y43 s43 hy43 ry43 => ?_)
          refine xi_iastore (pc' := 48) (x' := y43) kc_72_47 rfl A42 rfl (xi_in (by rw [zv32]; omega) (by rw [hy42]; rw [zv32]; omega)) s43 (fun hh43 eh43 => ?_)
          have K44 := xk_pa K17 (xk_wa rfl) xD_165 hy43 ry43 eh43
          refine xi_aload_n (pc' := 49) (x := 115) kc_72_48 rfl rfl ?_
          have A45 := ((eh43.2.1 115 (by decide)).trans eh15.1)
          refine xi_getfield (pc' := 52) (v := .ref 166) kc_72_49 rfl rfl rfl A45 rfl ?_
          refine xi_iload_n (pc' := 53) (x := x2) kc_72_52 rfl rfl ?_
          refine xi_iload_n (pc' := 54) (x := x3) kc_72_53 rfl rfl ?_
          refine xi_iff (pc' := 57) kc_72_54 rfl (xc_eq_f (X := x3.toInt) (Y := 0) rfl (by decide) (by omega)) ?_
          refine xi_aload_n (pc' := 58) (x := 115) kc_72_57 rfl rfl ?_
          refine xi_getfield (pc' := 61) (v := .int u2) kc_72_58 rfl rfl rfl A45 rfl ?_
          refine xi_goto (pc' := 70) kc_72_61 rfl ?_
          refine xcps4 (xk_arr K44.1 xD_166) (fun y46 A46 hy46 ry46 => ?_)
          refine xcps4 (xj_set (v := u2) hy46 ry46 x2 (by first | omega | decide) (by first | omega | decide)) (fun y47 s47 hy47 ry47 => ?_)
          refine xi_iastore (pc' := 71) (x' := y47) kc_72_70 rfl A46 rfl (xi_in (by omega) (by rw [hy46]; omega)) s47 (fun hh47 eh47 => ?_)
          have K48 := xk_pa K44 (xk_wa rfl) xD_166 hy47 ry47 eh47
          refine xi_iconst (pc' := 72) (v := 1) kc_72_71 rfl rfl ?_
          refine xi_ireturn kc_72_72 mr_72 rfl ?_
          have zc1 : (1 : Int32).toInt = 1 := by decide
          exact kk 1 hh47 (by omega) K48
      · refine xi_iff (pc' := 32) kc_72_29 rfl (xc_eq_f (X := x1.toInt) (Y := 0) rfl (by decide) (by omega)) ?_
        refine xi_iconst (pc' := 33) (v := 1) kc_72_32 rfl rfl ?_
        refine xi_goto (pc' := 37) kc_72_33 rfl ?_
        refine xcps2 (α := Int32) (v30 + 1) (fun v49 ev49 => ?_)
        have zv49 : v49.toInt = ((2) * x2.toInt + 1) := by rw [← ev49]; exact (xz_add (X := (2) * x2.toInt) (Y := 1) zv30 (by decide) (by omega) (by omega)).trans (by omega)
        refine xi_iadd (pc' := 38) (v := v49) kc_72_37 rfl ev49 ?_
        refine xi_iload_n (pc' := 39) (x := x3) kc_72_38 rfl rfl ?_
        by_cases c50 : x3.toInt = 0
        · refine xi_ift (pc' := 46) kc_72_39 rfl (xc_eq_t (X := x3.toInt) (Y := 0) rfl (by decide) (by omega)) ?_
          refine xi_iconst (pc' := 47) (v := 0) kc_72_46 rfl rfl ?_
          refine xcps4 (xk_arr K17.1 xD_165) (fun y51 A51 hy51 ry51 => ?_)
          refine xcps4 (xj_set (v := 0) hy51 ry51 v49 (by first | omega | decide) (by first | omega | decide)) (fun y52 s52 hy52 ry52 => ?_)
          refine xi_iastore (pc' := 48) (x' := y52) kc_72_47 rfl A51 rfl (xi_in (by rw [zv49]; omega) (by rw [hy51]; rw [zv49]; omega)) s52 (fun hh52 eh52 => ?_)
          have K53 := xk_pa K17 (xk_wa rfl) xD_165 hy52 ry52 eh52
          refine xi_aload_n (pc' := 49) (x := 115) kc_72_48 rfl rfl ?_
          have A54 := ((eh52.2.1 115 (by decide)).trans eh15.1)
          refine xi_getfield (pc' := 52) (v := .ref 166) kc_72_49 rfl rfl rfl A54 rfl ?_
          refine xi_iload_n (pc' := 53) (x := x2) kc_72_52 rfl rfl ?_
          refine xi_iload_n (pc' := 54) (x := x3) kc_72_53 rfl rfl ?_
          refine xi_ift (pc' := 64) kc_72_54 rfl (xc_eq_t (X := x3.toInt) (Y := 0) rfl (by decide) (by omega)) ?_
          refine xi_aload_n (pc' := 65) (x := 115) kc_72_64 rfl rfl ?_
          refine xi_getfield (pc' := 68) (v := .ref 166) kc_72_65 rfl rfl rfl A54 rfl ?_
          refine xi_iload_n (pc' := 69) (x := x2) kc_72_68 rfl rfl ?_
          refine xcps4 (xk_arr K53.1 xD_166) (fun y55 A55 hy55 ry55 => ?_)
          refine xcps4 (xj_get hy55 ry55 (i := x2) (by omega) (by omega)) (fun v56 ev56 bv56 dv56 => ?_)
          refine xi_iaload (pc' := 70) (v := v56) kc_72_69 rfl A55 (by decide) rfl (xi_in (by omega) (by rw [hy55]; omega)) ev56 ?_
          refine xcps4 (xj_set (v := v56) hy55 ry55 x2 (by first | omega | decide) (by first | omega | decide)) (fun y57 s57 hy57 ry57 => ?_)
          refine xi_iastore (pc' := 71) (x' := y57) kc_72_70 rfl A55 rfl (xi_in (by omega) (by rw [hy55]; omega)) s57 (fun hh57 eh57 => ?_)
          have K58 := xk_pa K53 (xk_wa rfl) xD_166 hy57 ry57 eh57
          refine xi_iconst (pc' := 72) (v := 1) kc_72_71 rfl rfl ?_
          refine xi_ireturn kc_72_72 mr_72 rfl ?_
          have zc1 : (1 : Int32).toInt = 1 := by decide
          exact kk 1 hh57 (by omega) K58
        · refine xi_iff (pc' := 42) kc_72_39 rfl (xc_eq_f (X := x3.toInt) (Y := 0) rfl (by decide) (by omega)) ?_
          refine xi_iconst (pc' := 43) (v := 1) kc_72_42 rfl rfl ?_
          refine xi_goto (pc' := 47) kc_72_43 rfl ?_
          refine xcps4 (xk_arr K17.1 xD_165) (fun y59 A59 hy59 ry59 => ?_)
          refine xcps4 (xj_set (v := 1) hy59 ry59 v49 (by first | omega | decide) (by first | omega | decide)) (fun y60 s60 hy60 ry60 => ?_)
          refine xi_iastore (pc' := 48) (x' := y60) kc_72_47 rfl A59 rfl (xi_in (by rw [zv49]; omega) (by rw [hy59]; rw [zv49]; omega)) s60 (fun hh60 eh60 => ?_)
          have K61 := xk_pa K17 (xk_wa rfl) xD_165 hy60 ry60 eh60
          refine xi_aload_n (pc' := 49) (x := 115) kc_72_48 rfl rfl ?_
          have A62 := ((eh60.2.1 115 (by decide)).trans eh15.1)
          refine xi_getfield (pc' := 52) (v := .ref 166) kc_72_49 rfl rfl rfl A62 rfl ?_
          refine xi_iload_n (pc' := 53) (x := x2) kc_72_52 rfl rfl ?_
          refine xi_iload_n (pc' := 54) (x := x3) kc_72_53 rfl rfl ?_
          refine xi_iff (pc' := 57) kc_72_54 rfl (xc_eq_f (X := x3.toInt) (Y := 0) rfl (by decide) (by omega)) ?_
          refine xi_aload_n (pc' := 58) (x := 115) kc_72_57 rfl rfl ?_
          refine xi_getfield (pc' := 61) (v := .int u2) kc_72_58 rfl rfl rfl A62 rfl ?_
          refine xi_goto (pc' := 70) kc_72_61 rfl ?_
          refine xcps4 (xk_arr K61.1 xD_166) (fun y63 A63 hy63 ry63 => ?_)
          refine xcps4 (xj_set (v := u2) hy63 ry63 x2 (by first | omega | decide) (by first | omega | decide)) (fun y64 s64 hy64 ry64 => ?_)
          refine xi_iastore (pc' := 71) (x' := y64) kc_72_70 rfl A63 rfl (xi_in (by omega) (by rw [hy63]; omega)) s64 (fun hh64 eh64 => ?_)
          have K65 := xk_pa K61 (xk_wa rfl) xD_166 hy64 ry64 eh64
          refine xi_iconst (pc' := 72) (v := 1) kc_72_71 rfl rfl ?_
          refine xi_ireturn kc_72_72 mr_72 rfl ?_
          have zc1 : (1 : Int32).toInt = 1 := by decide
          exact kk 1 hh64 (by omega) K65
set_option maxHeartbeats 4000000 in
theorem lp_73_0 {J : xe_J} {ov : List (List Int32)} (hJ : ∀ d mj as h, mj ≠ xe_loff → J d mj as h = none) (hov1 : ov[1]? = some [10, 0, 0, 0, 0, 0]) (hov2 : ov[2]? = some [99, 30, 50, 50, 1, 99999]) {d : Nat} {Q : Option Value → xe_H → Prop} {hb : xe_H} (kk : (∀ (r : Int32) (h' : xe_H), xk [(0, 9), (115, 1), (83, 0), (29, 0), (31, 0), (33, 0), (35, 0), (37, 0), (39, 0), (41, 0), (43, 0), (45, 0), (47, 0), (49, 0), (51, 0), (125, 0), (66, 8), (115, 18), (71, 0), (132, 0)] hb h' → Q (some (.int r)) h')) : ∀ m : Nat, (∀ (x1 : Int32) (x2 : Int32) (x3 : Int32) (x4 : Int32) (x5 : Int32) (h : xe_H), (0 ≤ x1.toInt ∧ x1.toInt ≤ 3) → (0 ≤ x2.toInt ∧ x2.toInt ≤ 1) → (0 ≤ x3.toInt ∧ x3.toInt ≤ 63) → (0 ≤ x4.toInt ∧ x4.toInt ≤ 1) → (0 ≤ x5.toInt ∧ x5.toInt ≤ 6) → xk [(0, 9), (115, 1), (83, 0), (29, 0), (31, 0), (33, 0), (35, 0), (37, 0), (39, 0), (41, 0), (43, 0), (45, 0), (47, 0), (49, 0), (51, 0), (125, 0), (66, 8), (115, 18), (71, 0), (132, 0)] hb h → (-1) * x5.toInt + 19 < (m : Int) → xw J ov (d + 8) 73 (41, [(0, .ref 115), (1, .int x1), (2, .int x2), (3, .int x3), (4, .int x4), (5, .int x5)], [], h) Q) ∧ (∀ (x1 : Int32) (x2 : Int32) (x4 : Int32) (x5 : Int32) (x6 : Int32) (x7 : Int32) (h : xe_H), (0 ≤ x1.toInt ∧ x1.toInt ≤ 3) → (0 ≤ x2.toInt ∧ x2.toInt ≤ 1) → (0 ≤ x4.toInt ∧ x4.toInt ≤ 1) → (0 ≤ x5.toInt ∧ x5.toInt ≤ 89478485) → ((-1) ≤ x6.toInt ∧ x6.toInt ≤ 11) → (0 ≤ x7.toInt ∧ x7.toInt ≤ 12) → xk [(0, 9), (115, 1), (83, 0), (29, 0), (31, 0), (33, 0), (35, 0), (37, 0), (39, 0), (41, 0), (43, 0), (45, 0), (47, 0), (49, 0), (51, 0), (125, 0), (66, 8), (115, 18), (71, 0), (132, 0)] hb h → (-1) * x7.toInt + 12 < (m : Int) → xw J ov (d + 8) 73 (129, [(0, .ref 115), (1, .int x1), (2, .int x2), (4, .int x4), (5, .int x5), (6, .int x6), (7, .int x7)], [], h) Q) := by
  intro m
  induction m with
  | zero =>
    refine ⟨?_, ?_⟩
    · intro x1 x2 x3 x4 x5 h b1 b2 b3 b4 b5 K hm; exfalso; omega
    · intro x1 x2 x4 x5 x6 x7 h b1 b2 b4 b5 b6 b7 K hm; exfalso; omega
  | succ m ih =>
    obtain ⟨i0, i1⟩ := ih
    refine ⟨?_, ?_⟩
    · intro x1 x2 x3 x4 x5 h b1 b2 b3 b4 b5 K hm
      refine xi_iload (pc' := 43) (x := x5) kc_73_41 rfl rfl ?_
      refine xi_bipush (pc' := 45) (v := 6) kc_73_43 rfl rfl ?_
      by_cases c1 : 6 ≤ x5.toInt
      · refine xi_cmt (pc' := 96) kc_73_45 rfl (xc_ge_t (X := x5.toInt) (Y := 6) rfl (by decide) (by omega)) ?_
        refine xi_aload_n (pc' := 97) (x := 115) kc_73_96 rfl rfl ?_
        refine xp_115 K.1 (fun u2 u3 u4 u5 u6 u7 u8 u9 u10 u11 u12 u13 u14 bu2 bu3 bu4 bu5 bu6 bu7 bu8 bu9 bu10 bu11 bu12 bu13 bu14 A15 => ?_)
        refine xi_getfield (pc' := 100) (v := .ref 166) kc_73_97 rfl rfl rfl A15 rfl ?_
        refine xi_iload_n (pc' := 101) (x := x1) kc_73_100 rfl rfl ?_
        refine xcps4 (xk_arr K.1 xD_166) (fun y16 A16 hy16 ry16 => ?_)
        refine xcps4 (xj_get hy16 ry16 (i := x1) (by omega) (by omega)) (fun v17 ev17 bv17 dv17 => ?_)
        refine xi_iaload (pc' := 102) (v := v17) kc_73_101 rfl A16 (by decide) rfl (xi_in (by omega) (by rw [hy16]; omega)) ev17 ?_
        by_cases c18 : 0 ≤ v17.toInt
        · refine xi_ift (pc' := 112) kc_73_102 rfl (xc_ge_t (X := v17.toInt) (Y := 0) rfl (by decide) (by omega)) ?_
          refine xi_aload_n (pc' := 113) (x := 115) kc_73_112 rfl rfl ?_
          refine xi_getfield (pc' := 116) (v := .ref 166) kc_73_113 rfl rfl rfl A15 rfl ?_
          refine xi_iload_n (pc' := 117) (x := x1) kc_73_116 rfl rfl ?_
          refine xi_iaload (pc' := 118) (v := v17) kc_73_117 rfl A16 (by decide) rfl (xi_in (by omega) (by rw [hy16]; omega)) ev17 ?_
          refine xi_bipush (pc' := 120) (v := 24) kc_73_118 rfl rfl ?_
          refine xcps2 (α := Int32) (v17 / 24) (fun v19 ev19 => ?_)
          have dv19 : v19.toInt = v17.toInt / 24 := by rw [← ev19]; exact xz_dive (X := v17.toInt) (Y := 24) rfl (by decide) (by omega) (by decide)
          have bv19 : 0 ≤ v19.toInt ∧ v19.toInt ≤ 89478485 := by omega
          refine xi_idiv (pc' := 121) (v := v19) kc_73_120 rfl ev19 (by decide) ?_
          refine xi_istore (pc' := 123) (lv' := [(5, .int v19), (0, .ref 115), (1, .int x1), (2, .int x2), (3, .int x3), (4, .int x4)]) kc_73_121 rfl rfl (xm_lt ml_73 rfl) ?_
          refine xi_iconst (pc' := 124) (v := (-1)) kc_73_123 rfl rfl ?_
          refine xi_istore (pc' := 126) (lv' := [(6, .int (-1)), (5, .int v19), (0, .ref 115), (1, .int x1), (2, .int x2), (3, .int x3), (4, .int x4)]) kc_73_124 rfl rfl (xm_lt ml_73 rfl) ?_
          refine xi_iconst (pc' := 127) (v := 0) kc_73_126 rfl rfl ?_
          refine xi_istore (pc' := 129) (lv' := [(7, .int 0), (6, .int (-1)), (5, .int v19), (0, .ref 115), (1, .int x1), (2, .int x2), (3, .int x3), (4, .int x4)]) kc_73_127 rfl rfl (xm_lt ml_73 rfl) ?_
          have zcm1 : ((-1) : Int32).toInt = (-1) := by decide
          have zc0 : (0 : Int32).toInt = 0 := by decide
          refine xw_lv (b := [(0, .ref 115), (1, .int x1), (2, .int x2), (4, .int x4), (5, .int v19), (6, .int (-1)), (7, .int 0)]) (lvS_cons (lvS_cons (lvS_cons (lvS_cons (lvS_cons (lvS_cons (lvS_cons (lvS_nil (show ([7, 6, 5, 0, 1, 2, 3, 4] : List Nat).Nodup by decide)) rfl) rfl) rfl) rfl) rfl) rfl) rfl) ?_
          exact i1 x1 x2 x4 v19 (-1) 0 h (by omega) (by omega) (by omega) (by omega) (by omega) (by omega) K (by omega)
        · refine xi_iff (pc' := 105) kc_73_102 rfl (xc_ge_f (X := v17.toInt) (Y := 0) rfl (by decide) (by omega)) ?_
          refine xi_aload_n (pc' := 106) (x := 115) kc_73_105 rfl rfl ?_
          refine xi_getfield (pc' := 109) (v := .int u3) kc_73_106 rfl rfl rfl A15 rfl ?_
          refine xi_goto (pc' := 118) kc_73_109 rfl ?_
          refine xi_bipush (pc' := 120) (v := 24) kc_73_118 rfl rfl ?_
          refine xcps2 (α := Int32) (u3 / 24) (fun v20 ev20 => ?_)
          have dv20 : v20.toInt = u3.toInt / 24 := by rw [← ev20]; exact xz_dive (X := u3.toInt) (Y := 24) rfl (by decide) (by omega) (by decide)
          have bv20 : 0 ≤ v20.toInt ∧ v20.toInt ≤ 25 := by omega
          refine xi_idiv (pc' := 121) (v := v20) kc_73_120 rfl ev20 (by decide) ?_
          refine xi_istore (pc' := 123) (lv' := [(5, .int v20), (0, .ref 115), (1, .int x1), (2, .int x2), (3, .int x3), (4, .int x4)]) kc_73_121 rfl rfl (xm_lt ml_73 rfl) ?_
          refine xi_iconst (pc' := 124) (v := (-1)) kc_73_123 rfl rfl ?_
          refine xi_istore (pc' := 126) (lv' := [(6, .int (-1)), (5, .int v20), (0, .ref 115), (1, .int x1), (2, .int x2), (3, .int x3), (4, .int x4)]) kc_73_124 rfl rfl (xm_lt ml_73 rfl) ?_
          refine xi_iconst (pc' := 127) (v := 0) kc_73_126 rfl rfl ?_
          refine xi_istore (pc' := 129) (lv' := [(7, .int 0), (6, .int (-1)), (5, .int v20), (0, .ref 115), (1, .int x1), (2, .int x2), (3, .int x3), (4, .int x4)]) kc_73_127 rfl rfl (xm_lt ml_73 rfl) ?_
          have zcm1 : ((-1) : Int32).toInt = (-1) := by decide
          have zc0 : (0 : Int32).toInt = 0 := by decide
          refine xw_lv (b := [(0, .ref 115), (1, .int x1), (2, .int x2), (4, .int x4), (5, .int v20), (6, .int (-1)), (7, .int 0)]) (lvS_cons (lvS_cons (lvS_cons (lvS_cons (lvS_cons (lvS_cons (lvS_cons (lvS_nil (show ([7, 6, 5, 0, 1, 2, 3, 4] : List Nat).Nodup by decide)) rfl) rfl) rfl) rfl) rfl) rfl) rfl) ?_
          exact i1 x1 x2 x4 v20 (-1) 0 h (by omega) (by omega) (by omega) (by omega) (by omega) (by omega) K (by omega)
      · refine xi_cmf (pc' := 48) kc_73_45 rfl (xc_ge_f (X := x5.toInt) (Y := 6) rfl (by decide) (by omega)) ?_
        refine xi_iload (pc' := 50) (x := x5) kc_73_48 rfl rfl ?_
        refine xi_aload_n (pc' := 51) (x := 115) kc_73_50 rfl rfl ?_
        refine xp_115 K.1 (fun u21 u22 u23 u24 u25 u26 u27 u28 u29 u30 u31 u32 u33 bu21 bu22 bu23 bu24 bu25 bu26 bu27 bu28 bu29 bu30 bu31 bu32 bu33 A34 => ?_)
        refine xi_getfield (pc' := 54) (v := .int u25) kc_73_51 rfl rfl rfl A34 rfl ?_
        by_cases c35 : u25.toInt ≤ x5.toInt
        · refine xi_cmt (pc' := 96) kc_73_54 rfl (xc_ge_t (X := x5.toInt) (Y := u25.toInt) rfl rfl (by omega)) ?_
          refine xi_aload_n (pc' := 97) (x := 115) kc_73_96 rfl rfl ?_
          refine xi_getfield (pc' := 100) (v := .ref 166) kc_73_97 rfl rfl rfl A34 rfl ?_
          refine xi_iload_n (pc' := 101) (x := x1) kc_73_100 rfl rfl ?_
          refine xcps4 (xk_arr K.1 xD_166) (fun y36 A36 hy36 ry36 => ?_)
          refine xcps4 (xj_get hy36 ry36 (i := x1) (by omega) (by omega)) (fun v37 ev37 bv37 dv37 => ?_)
          refine xi_iaload (pc' := 102) (v := v37) kc_73_101 rfl A36 (by decide) rfl (xi_in (by omega) (by rw [hy36]; omega)) ev37 ?_
          by_cases c38 : 0 ≤ v37.toInt
          · refine xi_ift (pc' := 112) kc_73_102 rfl (xc_ge_t (X := v37.toInt) (Y := 0) rfl (by decide) (by omega)) ?_
            refine xi_aload_n (pc' := 113) (x := 115) kc_73_112 rfl rfl ?_
            refine xi_getfield (pc' := 116) (v := .ref 166) kc_73_113 rfl rfl rfl A34 rfl ?_
            refine xi_iload_n (pc' := 117) (x := x1) kc_73_116 rfl rfl ?_
            refine xi_iaload (pc' := 118) (v := v37) kc_73_117 rfl A36 (by decide) rfl (xi_in (by omega) (by rw [hy36]; omega)) ev37 ?_
            refine xi_bipush (pc' := 120) (v := 24) kc_73_118 rfl rfl ?_
            refine xcps2 (α := Int32) (v37 / 24) (fun v39 ev39 => ?_)
            have dv39 : v39.toInt = v37.toInt / 24 := by rw [← ev39]; exact xz_dive (X := v37.toInt) (Y := 24) rfl (by decide) (by omega) (by decide)
            have bv39 : 0 ≤ v39.toInt ∧ v39.toInt ≤ 89478485 := by omega
            refine xi_idiv (pc' := 121) (v := v39) kc_73_120 rfl ev39 (by decide) ?_
            refine xi_istore (pc' := 123) (lv' := [(5, .int v39), (0, .ref 115), (1, .int x1), (2, .int x2), (3, .int x3), (4, .int x4)]) kc_73_121 rfl rfl (xm_lt ml_73 rfl) ?_
            refine xi_iconst (pc' := 124) (v := (-1)) kc_73_123 rfl rfl ?_
            refine xi_istore (pc' := 126) (lv' := [(6, .int (-1)), (5, .int v39), (0, .ref 115), (1, .int x1), (2, .int x2), (3, .int x3), (4, .int x4)]) kc_73_124 rfl rfl (xm_lt ml_73 rfl) ?_
            refine xi_iconst (pc' := 127) (v := 0) kc_73_126 rfl rfl ?_
            refine xi_istore (pc' := 129) (lv' := [(7, .int 0), (6, .int (-1)), (5, .int v39), (0, .ref 115), (1, .int x1), (2, .int x2), (3, .int x3), (4, .int x4)]) kc_73_127 rfl rfl (xm_lt ml_73 rfl) ?_
            have zcm1 : ((-1) : Int32).toInt = (-1) := by decide
            have zc0 : (0 : Int32).toInt = 0 := by decide
            refine xw_lv (b := [(0, .ref 115), (1, .int x1), (2, .int x2), (4, .int x4), (5, .int v39), (6, .int (-1)), (7, .int 0)]) (lvS_cons (lvS_cons (lvS_cons (lvS_cons (lvS_cons (lvS_cons (lvS_cons (lvS_nil (show ([7, 6, 5, 0, 1, 2, 3, 4] : List Nat).Nodup by decide)) rfl) rfl) rfl) rfl) rfl) rfl) rfl) ?_
            exact i1 x1 x2 x4 v39 (-1) 0 h (by omega) (by omega) (by omega) (by omega) (by omega) (by omega) K (by omega)
          · refine xi_iff (pc' := 105) kc_73_102 rfl (xc_ge_f (X := v37.toInt) (Y := 0) rfl (by decide) (by omega)) ?_
            refine xi_aload_n (pc' := 106) (x := 115) kc_73_105 rfl rfl ?_
            refine xi_getfield (pc' := 109) (v := .int u22) kc_73_106 rfl rfl rfl A34 rfl ?_
            refine xi_goto (pc' := 118) kc_73_109 rfl ?_
            refine xi_bipush (pc' := 120) (v := 24) kc_73_118 rfl rfl ?_
            refine xcps2 (α := Int32) (u22 / 24) (fun v40 ev40 => ?_)
            have dv40 : v40.toInt = u22.toInt / 24 := by rw [← ev40]; exact xz_dive (X := u22.toInt) (Y := 24) rfl (by decide) (by omega) (by decide)
            have bv40 : 0 ≤ v40.toInt ∧ v40.toInt ≤ 25 := by omega
            refine xi_idiv (pc' := 121) (v := v40) kc_73_120 rfl ev40 (by decide) ?_
            refine xi_istore (pc' := 123) (lv' := [(5, .int v40), (0, .ref 115), (1, .int x1), (2, .int x2), (3, .int x3), (4, .int x4)]) kc_73_121 rfl rfl (xm_lt ml_73 rfl) ?_
            refine xi_iconst (pc' := 124) (v := (-1)) kc_73_123 rfl rfl ?_
            refine xi_istore (pc' := 126) (lv' := [(6, .int (-1)), (5, .int v40), (0, .ref 115), (1, .int x1), (2, .int x2), (3, .int x3), (4, .int x4)]) kc_73_124 rfl rfl (xm_lt ml_73 rfl) ?_
            refine xi_iconst (pc' := 127) (v := 0) kc_73_126 rfl rfl ?_
            refine xi_istore (pc' := 129) (lv' := [(7, .int 0), (6, .int (-1)), (5, .int v40), (0, .ref 115), (1, .int x1), (2, .int x2), (3, .int x3), (4, .int x4)]) kc_73_127 rfl rfl (xm_lt ml_73 rfl) ?_
            have zcm1 : ((-1) : Int32).toInt = (-1) := by decide
            have zc0 : (0 : Int32).toInt = 0 := by decide
            refine xw_lv (b := [(0, .ref 115), (1, .int x1), (2, .int x2), (4, .int x4), (5, .int v40), (6, .int (-1)), (7, .int 0)]) (lvS_cons (lvS_cons (lvS_cons (lvS_cons (lvS_cons (lvS_cons (lvS_cons (lvS_nil (show ([7, 6, 5, 0, 1, 2, 3, 4] : List Nat).Nodup by decide)) rfl) rfl) rfl) rfl) rfl) rfl) rfl) ?_
            exact i1 x1 x2 x4 v40 (-1) 0 h (by omega) (by omega) (by omega) (by omega) (by omega) (by omega) K (by omega)
        · refine xi_cmf (pc' := 57) kc_73_54 rfl (xc_ge_f (X := x5.toInt) (Y := u25.toInt) rfl rfl (by omega)) ?_
          refine xi_iload (pc' := 59) (x := x4) kc_73_57 rfl rfl ?_
          by_cases c41 : x4.toInt = 0
          · refine xi_iff (pc' := 62) kc_73_59 rfl (xc_ne_f (X := x4.toInt) (Y := 0) rfl (by decide) (by omega)) ?_
            refine xi_iload_n (pc' := 63) (x := x3) kc_73_62 rfl rfl ?_
            refine xi_iload (pc' := 65) (x := x5) kc_73_63 rfl rfl ?_
            refine xcps2 (α := Int32) ((x3 : Int32) >>> (x5 &&& 31)) (fun v42 ev42 => ?_)
            have rv42 := xc_rng v42
            refine xi_ishr (pc' := 66) (v := v42) kc_73_65 rfl ev42 ?_
            refine xi_iconst (pc' := 67) (v := 1) kc_73_66 rfl rfl ?_
            refine xcps2 (α := Int32) ((v42 : Int32) &&& 1) (fun v43 ev43 => ?_)
            have rv43 := xc_rng v43
            refine xi_iand (pc' := 68) (v := v43) kc_73_67 rfl ev43 ?_
            refine xi_iconst (pc' := 69) (v := 1) kc_73_68 rfl rfl ?_
            by_cases c44 : v43.toInt = 1
            · refine xi_cmf (pc' := 72) kc_73_69 rfl (xc_ne_f (X := v43.toInt) (Y := 1) rfl (by decide) (by omega)) ?_
              refine xi_aload_n (pc' := 73) (x := 115) kc_73_72 rfl rfl ?_
              refine xi_getfield (pc' := 76) (v := .ref 135) kc_73_73 rfl rfl rfl A34 rfl ?_
              refine xi_iload (pc' := 78) (x := x5) kc_73_76 rfl rfl ?_
              refine xcps4 (xk_arr K.1 xD_135) (fun y45 A45 hy45 ry45 => ?_)
              refine xcps4 (xj_get hy45 ry45 (i := x5) (by omega) (by omega)) (fun v46 ev46 bv46 dv46 => ?_)
              refine xi_iaload (pc' := 79) (v := v46) kc_73_78 rfl A45 (by decide) rfl (xi_in (by omega) (by rw [hy45]; omega)) ev46 ?_
              refine xi_iload_n (pc' := 80) (x := x1) kc_73_79 rfl rfl ?_
              by_cases c47 : v46.toInt = x1.toInt
              · refine xi_cmf (pc' := 83) kc_73_80 rfl (xc_ne_f (X := v46.toInt) (Y := x1.toInt) rfl rfl (by omega)) ?_
                refine xi_iconst (pc' := 84) (v := 1) kc_73_83 rfl rfl ?_
                refine xi_goto (pc' := 88) kc_73_84 rfl ?_
                refine xi_istore (pc' := 90) (lv' := [(4, .int 1), (0, .ref 115), (1, .int x1), (2, .int x2), (3, .int x3), (5, .int x5)]) kc_73_88 rfl rfl (xm_lt ml_73 rfl) ?_
                refine xcps2 (α := Int32) (x5 + 1) (fun v48 ev48 => ?_)
                have zv48 : v48.toInt = (x5.toInt + 1) := by rw [← ev48]; exact (xz_add (X := x5.toInt) (Y := 1) rfl (by decide) (by omega) (by omega)).trans (by omega)
                refine xi_iinc (pc' := 93) (x := x5) (v := v48) (lv' := [(5, .int v48), (4, .int 1), (0, .ref 115), (1, .int x1), (2, .int x2), (3, .int x3)]) kc_73_90 rfl rfl ev48 rfl (xm_lt ml_73 rfl) ?_
                refine xi_goto (pc' := 41) kc_73_93 rfl ?_
                have zc1 : (1 : Int32).toInt = 1 := by decide
                refine xw_lv (b := [(0, .ref 115), (1, .int x1), (2, .int x2), (3, .int x3), (4, .int 1), (5, .int v48)]) (lvS_cons (lvS_cons (lvS_cons (lvS_cons (lvS_cons (lvS_cons (lvS_nil (show ([5, 4, 0, 1, 2, 3] : List Nat).Nodup by decide)) rfl) rfl) rfl) rfl) rfl) rfl) ?_
                exact i0 x1 x2 x3 1 v48 h (by omega) (by omega) (by omega) (by omega) (by omega) K (by omega)
              · refine xi_cmt (pc' := 87) kc_73_80 rfl (xc_ne_t (X := v46.toInt) (Y := x1.toInt) rfl rfl (by omega)) ?_
                refine xi_iconst (pc' := 88) (v := 0) kc_73_87 rfl rfl ?_
                refine xi_istore (pc' := 90) (lv' := [(4, .int 0), (0, .ref 115), (1, .int x1), (2, .int x2), (3, .int x3), (5, .int x5)]) kc_73_88 rfl rfl (xm_lt ml_73 rfl) ?_
                refine xcps2 (α := Int32) (x5 + 1) (fun v49 ev49 => ?_)
                have zv49 : v49.toInt = (x5.toInt + 1) := by rw [← ev49]; exact (xz_add (X := x5.toInt) (Y := 1) rfl (by decide) (by omega) (by omega)).trans (by omega)
                refine xi_iinc (pc' := 93) (x := x5) (v := v49) (lv' := [(5, .int v49), (4, .int 0), (0, .ref 115), (1, .int x1), (2, .int x2), (3, .int x3)]) kc_73_90 rfl rfl ev49 rfl (xm_lt ml_73 rfl) ?_
                refine xi_goto (pc' := 41) kc_73_93 rfl ?_
                have zc0 : (0 : Int32).toInt = 0 := by decide
                refine xw_lv (b := [(0, .ref 115), (1, .int x1), (2, .int x2), (3, .int x3), (4, .int 0), (5, .int v49)]) (lvS_cons (lvS_cons (lvS_cons (lvS_cons (lvS_cons (lvS_cons (lvS_nil (show ([5, 4, 0, 1, 2, 3] : List Nat).Nodup by decide)) rfl) rfl) rfl) rfl) rfl) rfl) ?_
                exact i0 x1 x2 x3 0 v49 h (by omega) (by omega) (by omega) (by omega) (by omega) K (by omega)
            · refine xi_cmt (pc' := 87) kc_73_69 rfl (xc_ne_t (X := v43.toInt) (Y := 1) rfl (by decide) (by omega)) ?_
              refine xi_iconst (pc' := 88) (v := 0) kc_73_87 rfl rfl ?_
              refine xi_istore (pc' := 90) (lv' := [(4, .int 0), (0, .ref 115), (1, .int x1), (2, .int x2), (3, .int x3), (5, .int x5)]) kc_73_88 rfl rfl (xm_lt ml_73 rfl) ?_
              refine xcps2 (α := Int32) (x5 + 1) (fun v50 ev50 => ?_)
              have zv50 : v50.toInt = (x5.toInt + 1) := by rw [← ev50]; exact (xz_add (X := x5.toInt) (Y := 1) rfl (by decide) (by omega) (by omega)).trans (by omega)
              refine xi_iinc (pc' := 93) (x := x5) (v := v50) (lv' := [(5, .int v50), (4, .int 0), (0, .ref 115), (1, .int x1), (2, .int x2), (3, .int x3)]) kc_73_90 rfl rfl ev50 rfl (xm_lt ml_73 rfl) ?_
              refine xi_goto (pc' := 41) kc_73_93 rfl ?_
              have zc0 : (0 : Int32).toInt = 0 := by decide
              refine xw_lv (b := [(0, .ref 115), (1, .int x1), (2, .int x2), (3, .int x3), (4, .int 0), (5, .int v50)]) (lvS_cons (lvS_cons (lvS_cons (lvS_cons (lvS_cons (lvS_cons (lvS_nil (show ([5, 4, 0, 1, 2, 3] : List Nat).Nodup by decide)) rfl) rfl) rfl) rfl) rfl) rfl) ?_
              exact i0 x1 x2 x3 0 v50 h (by omega) (by omega) (by omega) (by omega) (by omega) K (by omega)
          · refine xi_ift (pc' := 83) kc_73_59 rfl (xc_ne_t (X := x4.toInt) (Y := 0) rfl (by decide) (by omega)) ?_
            refine xi_iconst (pc' := 84) (v := 1) kc_73_83 rfl rfl ?_
            refine xi_goto (pc' := 88) kc_73_84 rfl ?_
            refine xi_istore (pc' := 90) (lv' := [(4, .int 1), (0, .ref 115), (1, .int x1), (2, .int x2), (3, .int x3), (5, .int x5)]) kc_73_88 rfl rfl (xm_lt ml_73 rfl) ?_
            refine xcps2 (α := Int32) (x5 + 1) (fun v51 ev51 => ?_)
            have zv51 : v51.toInt = (x5.toInt + 1) := by rw [← ev51]; exact (xz_add (X := x5.toInt) (Y := 1) rfl (by decide) (by omega) (by omega)).trans (by omega)
            refine xi_iinc (pc' := 93) (x := x5) (v := v51) (lv' := [(5, .int v51), (4, .int 1), (0, .ref 115), (1, .int x1), (2, .int x2), (3, .int x3)]) kc_73_90 rfl rfl ev51 rfl (xm_lt ml_73 rfl) ?_
            refine xi_goto (pc' := 41) kc_73_93 rfl ?_
            have zc1 : (1 : Int32).toInt = 1 := by decide
            refine xw_lv (b := [(0, .ref 115), (1, .int x1), (2, .int x2), (3, .int x3), (4, .int 1), (5, .int v51)]) (lvS_cons (lvS_cons (lvS_cons (lvS_cons (lvS_cons (lvS_cons (lvS_nil (show ([5, 4, 0, 1, 2, 3] : List Nat).Nodup by decide)) rfl) rfl) rfl) rfl) rfl) rfl) ?_
            exact i0 x1 x2 x3 1 v51 h (by omega) (by omega) (by omega) (by omega) (by omega) K (by omega)
    · intro x1 x2 x4 x5 x6 x7 h b1 b2 b4 b5 b6 b7 K hm
      refine xi_iload (pc' := 131) (x := x7) kc_73_129 rfl rfl ?_
      refine xi_aload_n (pc' := 132) (x := 115) kc_73_131 rfl rfl ?_
      refine xp_115 K.1 (fun u1 u2 u3 u4 u5 u6 u7 u8 u9 u10 u11 u12 u13 bu1 bu2 bu3 bu4 bu5 bu6 bu7 bu8 bu9 bu10 bu11 bu12 bu13 A14 => ?_)
      refine xi_getfield (pc' := 135) (v := .int u12) kc_73_132 rfl rfl rfl A14 rfl ?_
      by_cases c15 : u12.toInt ≤ x7.toInt
      · refine xi_cmt (pc' := 198) kc_73_135 rfl (xc_ge_t (X := x7.toInt) (Y := u12.toInt) rfl rfl (by omega)) ?_
        refine xi_iload (pc' := 200) (x := x4) kc_73_198 rfl rfl ?_
        by_cases c16 : x4.toInt = 0
        · refine xi_ift (pc' := 208) kc_73_200 rfl (xc_eq_t (X := x4.toInt) (Y := 0) rfl (by decide) (by omega)) ?_
          refine xi_bipush (pc' := 210) (v := (-9)) kc_73_208 rfl rfl ?_
          refine xi_ireturn kc_73_210 mr_73 rfl ?_
          have zcm9 : ((-9) : Int32).toInt = (-9) := by decide
          exact kk (-9) h K
        · refine xi_iff (pc' := 203) kc_73_200 rfl (xc_eq_f (X := x4.toInt) (Y := 0) rfl (by decide) (by omega)) ?_
          refine xi_iload (pc' := 205) (x := x6) kc_73_203 rfl rfl ?_
          by_cases c17 : 0 ≤ x6.toInt
          · refine xi_ift (pc' := 211) kc_73_205 rfl (xc_ge_t (X := x6.toInt) (Y := 0) rfl (by decide) (by omega)) ?_
            refine xi_aload_n (pc' := 212) (x := 115) kc_73_211 rfl rfl ?_
            refine xi_getfield (pc' := 215) (v := .int u13) kc_73_212 rfl rfl rfl A14 rfl ?_
            by_cases c18 : u13.toInt = 0
            · refine xi_ift (pc' := 232) kc_73_215 rfl (xc_eq_t (X := u13.toInt) (Y := 0) rfl (by decide) (by omega)) ?_
              refine xi_aload_n (pc' := 233) (x := 115) kc_73_232 rfl rfl ?_
              refine xi_getfield (pc' := 236) (v := .ref 164) kc_73_233 rfl rfl rfl A14 rfl ?_
              refine xi_iload (pc' := 238) (x := x6) kc_73_236 rfl rfl ?_
              refine xcps4 (xk_arr K.1 xD_164) (fun y19 A19 hy19 ry19 => ?_)
              refine xcps4 (xj_get hy19 ry19 (i := x6) (by omega) (by omega)) (fun v20 ev20 bv20 dv20 => ?_)
              refine xi_iaload (pc' := 239) (v := v20) kc_73_238 rfl A19 (by decide) rfl (xi_in (by omega) (by rw [hy19]; omega)) ev20 ?_
              refine xi_istore (pc' := 241) (lv' := [(7, .int v20), (0, .ref 115), (1, .int x1), (2, .int x2), (4, .int x4), (5, .int x5), (6, .int x6)]) kc_73_239 rfl rfl (xm_lt ml_73 rfl) ?_
              refine xi_iload_n (pc' := 242) (x := x2) kc_73_241 rfl rfl ?_
              by_cases c21 : x2.toInt = 0
              · refine xi_iff (pc' := 245) kc_73_242 rfl (xc_ne_f (X := x2.toInt) (Y := 0) rfl (by decide) (by omega)) ?_
                refine xi_iload (pc' := 247) (x := x5) kc_73_245 rfl rfl ?_
                refine xi_iload (pc' := 249) (x := v20) kc_73_247 rfl rfl ?_
                refine xcps2 (α := Int32) ((x5 : Int32) + v20) (fun v22 ev22 => ?_)
                have rv22 := xc_rng v22
                refine xi_iadd (pc' := 250) (v := v22) kc_73_249 rfl ev22 ?_
                refine xi_goto (pc' := 260) kc_73_250 rfl ?_
                refine xi_ireturn kc_73_260 mr_73 rfl ?_
                exact kk v22 h K
              · refine xi_ift (pc' := 253) kc_73_242 rfl (xc_ne_t (X := x2.toInt) (Y := 0) rfl (by decide) (by omega)) ?_
                refine xi_aload_n (pc' := 254) (x := 115) kc_73_253 rfl rfl ?_
                refine xi_getfield (pc' := 257) (v := .ref 163) kc_73_254 rfl rfl rfl A14 rfl ?_
                refine xi_iload (pc' := 259) (x := x6) kc_73_257 rfl rfl ?_
                refine xcps4 (xk_arr K.1 xD_163) (fun y23 A23 hy23 ry23 => ?_)
                refine xcps4 (xj_get hy23 ry23 (i := x6) (by omega) (by omega)) (fun v24 ev24 bv24 dv24 => ?_)
                refine xi_iaload (pc' := 260) (v := v24) kc_73_259 rfl A23 (by decide) rfl (xi_in (by omega) (by rw [hy23]; omega)) ev24 ?_
                refine xi_ireturn kc_73_260 mr_73 rfl ?_
                exact kk v24 h K
            · refine xi_iff (pc' := 218) kc_73_215 rfl (xc_eq_f (X := u13.toInt) (Y := 0) rfl (by decide) (by omega)) ?_
              refine xi_aload_n (pc' := 219) (x := 115) kc_73_218 rfl rfl ?_
              refine xi_getfield (pc' := 222) (v := .ref 164) kc_73_219 rfl rfl rfl A14 rfl ?_
              refine xi_iload (pc' := 224) (x := x6) kc_73_222 rfl rfl ?_
              refine xcps4 (xk_arr K.1 xD_164) (fun y25 A25 hy25 ry25 => ?_)
              refine xcps4 (xj_get hy25 ry25 (i := x6) (by omega) (by omega)) (fun v26 ev26 bv26 dv26 => ?_)
              refine xi_iaload (pc' := 225) (v := v26) kc_73_224 rfl A25 (by decide) rfl (xi_in (by omega) (by rw [hy25]; omega)) ev26 ?_
              refine xi_iconst (pc' := 226) (v := 1) kc_73_225 rfl rfl ?_
              refine xcps2 (α := Int32) ((v26 : Int32) + 1) (fun v27 ev27 => ?_)
              have rv27 := xc_rng v27
              refine xi_iadd (pc' := 227) (v := v27) kc_73_226 rfl ev27 ?_
              refine xi_iconst (pc' := 228) (v := 2) kc_73_227 rfl rfl ?_
              refine xcps2 (α := Int32) (v27 / 2) (fun v28 ev28 => ?_)
              have dv28 : 2 * v28.toInt ≤ v27.toInt + 1 ∧ v27.toInt ≤ 2 * v28.toInt + 1 := by rw [← ev28]; exact xz_div (X := v27.toInt) (Y := 2) rfl (by decide) (by decide)
              have bv28 : -1073741825 ≤ v28.toInt ∧ v28.toInt ≤ 1073741824 := by omega
              refine xi_idiv (pc' := 229) (v := v28) kc_73_228 rfl ev28 (by decide) ?_
              refine xi_goto (pc' := 239) kc_73_229 rfl ?_
              refine xi_istore (pc' := 241) (lv' := [(7, .int v28), (0, .ref 115), (1, .int x1), (2, .int x2), (4, .int x4), (5, .int x5), (6, .int x6)]) kc_73_239 rfl rfl (xm_lt ml_73 rfl) ?_
              refine xi_iload_n (pc' := 242) (x := x2) kc_73_241 rfl rfl ?_
              by_cases c29 : x2.toInt = 0
              · refine xi_iff (pc' := 245) kc_73_242 rfl (xc_ne_f (X := x2.toInt) (Y := 0) rfl (by decide) (by omega)) ?_
                refine xi_iload (pc' := 247) (x := x5) kc_73_245 rfl rfl ?_
                refine xi_iload (pc' := 249) (x := v28) kc_73_247 rfl rfl ?_
                refine xcps2 (α := Int32) (x5 + v28) (fun v30 ev30 => ?_)
                have zv30 : v30.toInt = (x5.toInt + v28.toInt) := by rw [← ev30]; exact (xz_add (X := x5.toInt) (Y := v28.toInt) rfl rfl (by omega) (by omega)).trans (by omega)
                refine xi_iadd (pc' := 250) (v := v30) kc_73_249 rfl ev30 ?_
                refine xi_goto (pc' := 260) kc_73_250 rfl ?_
                refine xi_ireturn kc_73_260 mr_73 rfl ?_
                exact kk v30 h K
              · refine xi_ift (pc' := 253) kc_73_242 rfl (xc_ne_t (X := x2.toInt) (Y := 0) rfl (by decide) (by omega)) ?_
                refine xi_aload_n (pc' := 254) (x := 115) kc_73_253 rfl rfl ?_
                refine xi_getfield (pc' := 257) (v := .ref 163) kc_73_254 rfl rfl rfl A14 rfl ?_
                refine xi_iload (pc' := 259) (x := x6) kc_73_257 rfl rfl ?_
                refine xcps4 (xk_arr K.1 xD_163) (fun y31 A31 hy31 ry31 => ?_)
                refine xcps4 (xj_get hy31 ry31 (i := x6) (by omega) (by omega)) (fun v32 ev32 bv32 dv32 => ?_)
                refine xi_iaload (pc' := 260) (v := v32) kc_73_259 rfl A31 (by decide) rfl (xi_in (by omega) (by rw [hy31]; omega)) ev32 ?_
                refine xi_ireturn kc_73_260 mr_73 rfl ?_
                exact kk v32 h K
          · refine xi_iff (pc' := 208) kc_73_205 rfl (xc_ge_f (X := x6.toInt) (Y := 0) rfl (by decide) (by omega)) ?_
            refine xi_bipush (pc' := 210) (v := (-9)) kc_73_208 rfl rfl ?_
            refine xi_ireturn kc_73_210 mr_73 rfl ?_
            have zcm9 : ((-9) : Int32).toInt = (-9) := by decide
            exact kk (-9) h K
      · refine xi_cmf (pc' := 138) kc_73_135 rfl (xc_ge_f (X := x7.toInt) (Y := u12.toInt) rfl rfl (by omega)) ?_
        refine xi_aload_n (pc' := 139) (x := 115) kc_73_138 rfl rfl ?_
        refine xi_getfield (pc' := 142) (v := .ref 162) kc_73_139 rfl rfl rfl A14 rfl ?_
        refine xi_iload (pc' := 144) (x := x7) kc_73_142 rfl rfl ?_
        refine xcps4 (xk_arr K.1 xD_162) (fun y33 A33 hy33 ry33 => ?_)
        refine xcps4 (xj_get hy33 ry33 (i := x7) (by omega) (by omega)) (fun v34 ev34 bv34 dv34 => ?_)
        refine xi_iaload (pc' := 145) (v := v34) kc_73_144 rfl A33 (by decide) rfl (xi_in (by omega) (by rw [hy33]; omega)) ev34 ?_
        refine xi_iload_n (pc' := 146) (x := x1) kc_73_145 rfl rfl ?_
        by_cases c35 : v34.toInt = x1.toInt
        · refine xi_cmf (pc' := 149) kc_73_146 rfl (xc_ne_f (X := v34.toInt) (Y := x1.toInt) rfl rfl (by omega)) ?_
          refine xi_aload_n (pc' := 150) (x := 115) kc_73_149 rfl rfl ?_
          refine xi_getfield (pc' := 153) (v := .ref 161) kc_73_150 rfl rfl rfl A14 rfl ?_
          refine xi_iload (pc' := 155) (x := x7) kc_73_153 rfl rfl ?_
          refine xcps4 (xk_arr K.1 xD_161) (fun y36 A36 hy36 ry36 => ?_)
          refine xcps4 (xj_get hy36 ry36 (i := x7) (by omega) (by omega)) (fun v37 ev37 bv37 dv37 => ?_)
          refine xi_iaload (pc' := 156) (v := v37) kc_73_155 rfl A36 (by decide) rfl (xi_in (by omega) (by rw [hy36]; omega)) ev37 ?_
          refine xi_iload (pc' := 158) (x := x5) kc_73_156 rfl rfl ?_
          by_cases c38 : x5.toInt < v37.toInt
          · refine xi_cmt (pc' := 188) kc_73_158 rfl (xc_gt_t (X := v37.toInt) (Y := x5.toInt) rfl rfl (by omega)) ?_
            refine xi_iload (pc' := 190) (x := x6) kc_73_188 rfl rfl ?_
            refine xi_istore (pc' := 192) (lv' := [(6, .int x6), (0, .ref 115), (1, .int x1), (2, .int x2), (4, .int x4), (5, .int x5), (7, .int x7)]) kc_73_190 rfl rfl (xm_lt ml_73 rfl) ?_
            refine xcps2 (α := Int32) (x7 + 1) (fun v39 ev39 => ?_)
            have zv39 : v39.toInt = (x7.toInt + 1) := by rw [← ev39]; exact (xz_add (X := x7.toInt) (Y := 1) rfl (by decide) (by omega) (by omega)).trans (by omega)
            refine xi_iinc (pc' := 195) (x := x7) (v := v39) (lv' := [(7, .int v39), (6, .int x6), (0, .ref 115), (1, .int x1), (2, .int x2), (4, .int x4), (5, .int x5)]) kc_73_192 rfl rfl ev39 rfl (xm_lt ml_73 rfl) ?_
            refine xi_goto (pc' := 129) kc_73_195 rfl ?_
            refine xw_lv (b := [(0, .ref 115), (1, .int x1), (2, .int x2), (4, .int x4), (5, .int x5), (6, .int x6), (7, .int v39)]) (lvS_cons (lvS_cons (lvS_cons (lvS_cons (lvS_cons (lvS_cons (lvS_cons (lvS_nil (show ([7, 6, 0, 1, 2, 4, 5] : List Nat).Nodup by decide)) rfl) rfl) rfl) rfl) rfl) rfl) rfl) ?_
            exact i1 x1 x2 x4 x5 x6 v39 h (by omega) (by omega) (by omega) (by omega) (by omega) (by omega) K (by omega)
          · refine xi_cmf (pc' := 161) kc_73_158 rfl (xc_gt_f (X := v37.toInt) (Y := x5.toInt) rfl rfl (by omega)) ?_
            refine xi_iload (pc' := 163) (x := x6) kc_73_161 rfl rfl ?_
            by_cases c40 : x6.toInt < 0
            · refine xi_ift (pc' := 183) kc_73_163 rfl (xc_lt_t (X := x6.toInt) (Y := 0) rfl (by decide) (by omega)) ?_
              refine xi_iload (pc' := 185) (x := x7) kc_73_183 rfl rfl ?_
              refine xi_goto (pc' := 190) kc_73_185 rfl ?_
              refine xi_istore (pc' := 192) (lv' := [(6, .int x7), (0, .ref 115), (1, .int x1), (2, .int x2), (4, .int x4), (5, .int x5), (7, .int x7)]) kc_73_190 rfl rfl (xm_lt ml_73 rfl) ?_
              refine xcps2 (α := Int32) (x7 + 1) (fun v41 ev41 => ?_)
              have zv41 : v41.toInt = (x7.toInt + 1) := by rw [← ev41]; exact (xz_add (X := x7.toInt) (Y := 1) rfl (by decide) (by omega) (by omega)).trans (by omega)
              refine xi_iinc (pc' := 195) (x := x7) (v := v41) (lv' := [(7, .int v41), (6, .int x7), (0, .ref 115), (1, .int x1), (2, .int x2), (4, .int x4), (5, .int x5)]) kc_73_192 rfl rfl ev41 rfl (xm_lt ml_73 rfl) ?_
              refine xi_goto (pc' := 129) kc_73_195 rfl ?_
              refine xw_lv (b := [(0, .ref 115), (1, .int x1), (2, .int x2), (4, .int x4), (5, .int x5), (6, .int x7), (7, .int v41)]) (lvS_cons (lvS_cons (lvS_cons (lvS_cons (lvS_cons (lvS_cons (lvS_cons (lvS_nil (show ([7, 6, 0, 1, 2, 4, 5] : List Nat).Nodup by decide)) rfl) rfl) rfl) rfl) rfl) rfl) rfl) ?_
              exact i1 x1 x2 x4 x5 x7 v41 h (by omega) (by omega) (by omega) (by omega) (by omega) (by omega) K (by omega)
            · refine xi_iff (pc' := 166) kc_73_163 rfl (xc_lt_f (X := x6.toInt) (Y := 0) rfl (by decide) (by omega)) ?_
              refine xi_aload_n (pc' := 167) (x := 115) kc_73_166 rfl rfl ?_
              refine xi_getfield (pc' := 170) (v := .ref 161) kc_73_167 rfl rfl rfl A14 rfl ?_
              refine xi_iload (pc' := 172) (x := x7) kc_73_170 rfl rfl ?_
              refine xi_iaload (pc' := 173) (v := v37) kc_73_172 rfl A36 (by decide) rfl (xi_in (by omega) (by rw [hy36]; omega)) ev37 ?_
              refine xi_aload_n (pc' := 174) (x := 115) kc_73_173 rfl rfl ?_
              refine xi_getfield (pc' := 177) (v := .ref 161) kc_73_174 rfl rfl rfl A14 rfl ?_
              refine xi_iload (pc' := 179) (x := x6) kc_73_177 rfl rfl ?_
              refine xcps4 (xj_get hy36 ry36 (i := x6) (by omega) (by omega)) (fun v42 ev42 bv42 dv42 => ?_)
              refine xi_iaload (pc' := 180) (v := v42) kc_73_179 rfl A36 (by decide) rfl (xi_in (by omega) (by rw [hy36]; omega)) ev42 ?_
              by_cases c43 : v37.toInt < v42.toInt
              · refine xi_cmt (pc' := 188) kc_73_180 rfl (xc_lt_t (X := v37.toInt) (Y := v42.toInt) rfl rfl (by omega)) ?_
                refine xi_iload (pc' := 190) (x := x6) kc_73_188 rfl rfl ?_
                refine xi_istore (pc' := 192) (lv' := [(6, .int x6), (0, .ref 115), (1, .int x1), (2, .int x2), (4, .int x4), (5, .int x5), (7, .int x7)]) kc_73_190 rfl rfl (xm_lt ml_73 rfl) ?_
                refine xcps2 (α := Int32) (x7 + 1) (fun v44 ev44 => ?_)
                have zv44 : v44.toInt = (x7.toInt + 1) := by rw [← ev44]; exact (xz_add (X := x7.toInt) (Y := 1) rfl (by decide) (by omega) (by omega)).trans (by omega)
                refine xi_iinc (pc' := 195) (x := x7) (v := v44) (lv' := [(7, .int v44), (6, .int x6), (0, .ref 115), (1, .int x1), (2, .int x2), (4, .int x4), (5, .int x5)]) kc_73_192 rfl rfl ev44 rfl (xm_lt ml_73 rfl) ?_
                refine xi_goto (pc' := 129) kc_73_195 rfl ?_
                refine xw_lv (b := [(0, .ref 115), (1, .int x1), (2, .int x2), (4, .int x4), (5, .int x5), (6, .int x6), (7, .int v44)]) (lvS_cons (lvS_cons (lvS_cons (lvS_cons (lvS_cons (lvS_cons (lvS_cons (lvS_nil (show ([7, 6, 0, 1, 2, 4, 5] : List Nat).Nodup by decide)) rfl) rfl) rfl) rfl) rfl) rfl) rfl) ?_
                exact i1 x1 x2 x4 x5 x6 v44 h (by omega) (by omega) (by omega) (by omega) (by omega) (by omega) K (by omega)
              · refine xi_cmf (pc' := 183) kc_73_180 rfl (xc_lt_f (X := v37.toInt) (Y := v42.toInt) rfl rfl (by omega)) ?_
                refine xi_iload (pc' := 185) (x := x7) kc_73_183 rfl rfl ?_
                refine xi_goto (pc' := 190) kc_73_185 rfl ?_
                refine xi_istore (pc' := 192) (lv' := [(6, .int x7), (0, .ref 115), (1, .int x1), (2, .int x2), (4, .int x4), (5, .int x5), (7, .int x7)]) kc_73_190 rfl rfl (xm_lt ml_73 rfl) ?_
                refine xcps2 (α := Int32) (x7 + 1) (fun v45 ev45 => ?_)
                have zv45 : v45.toInt = (x7.toInt + 1) := by rw [← ev45]; exact (xz_add (X := x7.toInt) (Y := 1) rfl (by decide) (by omega) (by omega)).trans (by omega)
                refine xi_iinc (pc' := 195) (x := x7) (v := v45) (lv' := [(7, .int v45), (6, .int x7), (0, .ref 115), (1, .int x1), (2, .int x2), (4, .int x4), (5, .int x5)]) kc_73_192 rfl rfl ev45 rfl (xm_lt ml_73 rfl) ?_
                refine xi_goto (pc' := 129) kc_73_195 rfl ?_
                refine xw_lv (b := [(0, .ref 115), (1, .int x1), (2, .int x2), (4, .int x4), (5, .int x5), (6, .int x7), (7, .int v45)]) (lvS_cons (lvS_cons (lvS_cons (lvS_cons (lvS_cons (lvS_cons (lvS_cons (lvS_nil (show ([7, 6, 0, 1, 2, 4, 5] : List Nat).Nodup by decide)) rfl) rfl) rfl) rfl) rfl) rfl) rfl) ?_
                exact i1 x1 x2 x4 x5 x7 v45 h (by omega) (by omega) (by omega) (by omega) (by omega) (by omega) K (by omega)
        · refine xi_cmt (pc' := 188) kc_73_146 rfl (xc_ne_t (X := v34.toInt) (Y := x1.toInt) rfl rfl (by omega)) ?_
          refine xi_iload (pc' := 190) (x := x6) kc_73_188 rfl rfl ?_
          refine xi_istore (pc' := 192) (lv' := [(6, .int x6), (0, .ref 115), (1, .int x1), (2, .int x2), (4, .int x4), (5, .int x5), (7, .int x7)]) kc_73_190 rfl rfl (xm_lt ml_73 rfl) ?_
          refine xcps2 (α := Int32) (x7 + 1) (fun v46 ev46 => ?_)
          have zv46 : v46.toInt = (x7.toInt + 1) := by rw [← ev46]; exact (xz_add (X := x7.toInt) (Y := 1) rfl (by decide) (by omega) (by omega)).trans (by omega)
          refine xi_iinc (pc' := 195) (x := x7) (v := v46) (lv' := [(7, .int v46), (6, .int x6), (0, .ref 115), (1, .int x1), (2, .int x2), (4, .int x4), (5, .int x5)]) kc_73_192 rfl rfl ev46 rfl (xm_lt ml_73 rfl) ?_
          refine xi_goto (pc' := 129) kc_73_195 rfl ?_
          refine xw_lv (b := [(0, .ref 115), (1, .int x1), (2, .int x2), (4, .int x4), (5, .int x5), (6, .int x6), (7, .int v46)]) (lvS_cons (lvS_cons (lvS_cons (lvS_cons (lvS_cons (lvS_cons (lvS_cons (lvS_nil (show ([7, 6, 0, 1, 2, 4, 5] : List Nat).Nodup by decide)) rfl) rfl) rfl) rfl) rfl) rfl) rfl) ?_
          exact i1 x1 x2 x4 x5 x6 v46 h (by omega) (by omega) (by omega) (by omega) (by omega) (by omega) K (by omega)
set_option maxHeartbeats 4000000 in
theorem mt_73_0 {J : xe_J} {ov : List (List Int32)} (hJ : ∀ d mj as h, mj ≠ xe_loff → J d mj as h = none) (hov1 : ov[1]? = some [10, 0, 0, 0, 0, 0]) (hov2 : ov[2]? = some [99, 30, 50, 50, 1, 99999]) {d : Nat} {Q : Option Value → xe_H → Prop} {h : xe_H} {x1 : Int32} {x2 : Int32} (T : xt h) (kk : (∀ (r : Int32) (h' : xe_H), xk [(0, 9), (115, 1), (83, 0), (29, 0), (31, 0), (33, 0), (35, 0), (37, 0), (39, 0), (41, 0), (43, 0), (45, 0), (47, 0), (49, 0), (51, 0), (125, 0), (66, 8), (115, 18), (71, 0), (132, 0)] h h' → Q (some (.int r)) h')) : xw J ov (d + 8) 73 (0, [(0, .ref 115), (1, .int x1), (2, .int x2)], [], h) Q := by
  have K : xk [(0, 9), (115, 1), (83, 0), (29, 0), (31, 0), (33, 0), (35, 0), (37, 0), (39, 0), (41, 0), (43, 0), (45, 0), (47, 0), (49, 0), (51, 0), (125, 0), (66, 8), (115, 18), (71, 0), (132, 0)] h h := xk_re T
  have rx1 := xc_rng x1
  have rx2 := xc_rng x2
  refine xi_aload_n (pc' := 1) (x := 115) kc_73_0 rfl rfl ?_
  refine xi_iconst (pc' := 2) (v := 0) kc_73_1 rfl rfl ?_
  refine xp_115 K.1 (fun u1 u2 u3 u4 u5 u6 u7 u8 u9 u10 u11 u12 u13 bu1 bu2 bu3 bu4 bu5 bu6 bu7 bu8 bu9 bu10 bu11 bu12 bu13 A14 => ?_)
  refine xi_putfield (pc' := 5) (fs' := [.int 0, .int u2, .ref 116, .ref 117, .ref 118, .ref 119, .ref 120, .ref 121, .ref 122, .ref 123, .ref 124, .ref 125, .ref 126, .ref 127, .ref 128, .ref 129, .int u3, .ref 130, .int u4, .ref 131, .ref 132, .ref 133, .ref 134, .int u5, .ref 135, .ref 136, .ref 137, .ref 138, .ref 139, .ref 140, .ref 141, .ref 142, .int u6, .int u7, .int u8, .ref 143, .ref 144, .ref 145, .ref 146, .ref 147, .ref 148, .int u9, .ref 149, .ref 150, .ref 151, .int u10, .ref 152, .ref 153, .ref 154, .ref 155, .ref 156, .ref 157, .ref 158, .ref 159, .int u11, .ref 160, .int u12, .ref 161, .ref 162, .ref 163, .ref 164, .int u13, .ref 165, .ref 166]) kc_73_2 rfl rfl rfl A14 rfl rfl rfl (Nat.le_of_ble_eq_true rfl) rfl (fun hh16 eh15 => ?_)
  have K17 := xk_pf (k := 0) (v := 0) K (xk_wf rfl) xD_115 A14 rfl (by first | omega | decide) (by first | omega | decide) eh15 rfl
  refine xi_iload_n (pc' := 6) (x := x1) kc_73_5 rfl rfl ?_
  refine xi_iconst (pc' := 7) (v := 0) kc_73_6 rfl rfl ?_
  refine xi_iconst (pc' := 8) (v := 3) kc_73_7 rfl rfl ?_
  refine xi_static (mj := 11) (as := [.int x1, .int 0, .int 3]) (st1 := []) (lv0 := [(0, .int x1), (1, .int 0), (2, .int 3)]) kc_73_8 rfl rfl (Nat.le_of_ble_eq_true rfl) rfl rfl (Nat.le_of_ble_eq_true rfl) (hJ _ _ _ _ (by decide)) (xm_le ml_11 rfl) rfl ?_
  refine xi_iload_n (pc' := 1) (x := x1) kc_11_0 rfl rfl ?_
  refine xi_iload_n (pc' := 2) (x := 0) kc_11_1 rfl rfl ?_
  by_cases c18 : x1.toInt < 0
  · refine xi_cmt (pc' := 14) kc_11_2 rfl (xc_lt_t (X := x1.toInt) (Y := 0) rfl (by decide) (by omega)) ?_
    refine xi_iconst (pc' := 15) (v := 0) kc_11_14 rfl rfl ?_
    refine xi_ireturn kc_11_15 mr_11 rfl ?_
    show xw J ov (d + 8) 73 (11, [(0, .ref 115), (1, .int x1), (2, .int x2)], [.int 0], hh16) _
    refine xi_ift (pc' := 23) kc_73_11 rfl rfl ?_
    refine xi_aload_n (pc' := 24) (x := 115) kc_73_23 rfl rfl ?_
    refine xi_bipush (pc' := 26) (v := (-2)) kc_73_24 rfl rfl ?_
    refine xi_virtual (mj := 12) (as := [.int (-2)]) (st1 := []) (lv0 := [(0, .ref 115), (1, .int (-2))]) kc_73_26 rfl rfl rfl rfl rfl eh15.1 (Nat.le_of_ble_eq_true rfl) (hJ _ _ _ _ (by decide)) (xm_le ml_12 rfl) rfl ?_
    refine xi_aload_n (pc' := 1) (x := 115) kc_12_0 rfl rfl ?_
    refine xi_getfield (pc' := 4) (v := .ref 140) kc_12_1 rfl rfl rfl eh15.1 rfl ?_
    refine xi_iload_n (pc' := 5) (x := (-2)) kc_12_4 rfl rfl ?_
    refine xi_ineg (pc' := 6) (v := 2) kc_12_5 rfl rfl ?_
    refine xi_dup2 (pc' := 7) kc_12_6 rfl ⟨rfl, rfl⟩ ?_
    refine xcps4 (xk_arr K17.1 xD_140) (fun y19 A19 hy19 ry19 => ?_)
    refine xcps4 (xj_get hy19 ry19 (i := 2) (by decide) (by decide)) (fun v20 ev20 bv20 dv20 => ?_)
    refine xi_iaload (pc' := 8) (v := v20) kc_12_7 rfl A19 (by decide) rfl (xi_in (by decide) (by rw [hy19]; decide)) ev20 ?_
    refine xi_iconst (pc' := 9) (v := 1) kc_12_8 rfl rfl ?_
    refine xcps2 (α := Int32) ((v20 : Int32) + 1) (fun v21 ev21 => ?_)
    have rv21 := xc_rng v21
    refine xi_iadd (pc' := 10) (v := v21) kc_12_9 rfl ev21 ?_
    refine xcps4 (xj_set (v := v21) hy19 ry19 2 (by first | omega | decide) (by first | omega | decide)) (fun y22 s22 hy22 ry22 => ?_)
    refine xi_iastore (pc' := 11) (x' := y22) kc_12_10 rfl A19 rfl (xi_in (by decide) (by rw [hy19]; decide)) s22 (fun hh22 eh22 => ?_)
    have K23 := xk_pa K17 (xk_wa rfl) xD_140 hy22 ry22 eh22
    refine xi_iload_n (pc' := 12) (x := (-2)) kc_12_11 rfl rfl ?_
    refine xi_ireturn kc_12_12 mr_12 rfl ?_
    show xw J ov (d + 8) 73 (29, [(0, .ref 115), (1, .int x1), (2, .int x2)], [.int (-2)], hh22) _
    refine xi_ireturn kc_73_29 mr_73 rfl ?_
    have zcm2 : ((-2) : Int32).toInt = (-2) := by decide
    exact kk (-2) hh22 K23
  · refine xi_cmf (pc' := 5) kc_11_2 rfl (xc_lt_f (X := x1.toInt) (Y := 0) rfl (by decide) (by omega)) ?_
    refine xi_iload_n (pc' := 6) (x := x1) kc_11_5 rfl rfl ?_
    refine xi_iload_n (pc' := 7) (x := 3) kc_11_6 rfl rfl ?_
    by_cases c24 : 3 < x1.toInt
    · refine xi_cmt (pc' := 14) kc_11_7 rfl (xc_gt_t (X := x1.toInt) (Y := 3) rfl (by decide) (by omega)) ?_
      refine xi_iconst (pc' := 15) (v := 0) kc_11_14 rfl rfl ?_
      refine xi_ireturn kc_11_15 mr_11 rfl ?_
      show xw J ov (d + 8) 73 (11, [(0, .ref 115), (1, .int x1), (2, .int x2)], [.int 0], hh16) _
      refine xi_ift (pc' := 23) kc_73_11 rfl rfl ?_
      refine xi_aload_n (pc' := 24) (x := 115) kc_73_23 rfl rfl ?_
      refine xi_bipush (pc' := 26) (v := (-2)) kc_73_24 rfl rfl ?_
      refine xi_virtual (mj := 12) (as := [.int (-2)]) (st1 := []) (lv0 := [(0, .ref 115), (1, .int (-2))]) kc_73_26 rfl rfl rfl rfl rfl eh15.1 (Nat.le_of_ble_eq_true rfl) (hJ _ _ _ _ (by decide)) (xm_le ml_12 rfl) rfl ?_
      refine xi_aload_n (pc' := 1) (x := 115) kc_12_0 rfl rfl ?_
      refine xi_getfield (pc' := 4) (v := .ref 140) kc_12_1 rfl rfl rfl eh15.1 rfl ?_
      refine xi_iload_n (pc' := 5) (x := (-2)) kc_12_4 rfl rfl ?_
      refine xi_ineg (pc' := 6) (v := 2) kc_12_5 rfl rfl ?_
      refine xi_dup2 (pc' := 7) kc_12_6 rfl ⟨rfl, rfl⟩ ?_
      refine xcps4 (xk_arr K17.1 xD_140) (fun y25 A25 hy25 ry25 => ?_)
      refine xcps4 (xj_get hy25 ry25 (i := 2) (by decide) (by decide)) (fun v26 ev26 bv26 dv26 => ?_)
      refine xi_iaload (pc' := 8) (v := v26) kc_12_7 rfl A25 (by decide) rfl (xi_in (by decide) (by rw [hy25]; decide)) ev26 ?_
      refine xi_iconst (pc' := 9) (v := 1) kc_12_8 rfl rfl ?_
      refine xcps2 (α := Int32) ((v26 : Int32) + 1) (fun v27 ev27 => ?_)
      have rv27 := xc_rng v27
      refine xi_iadd (pc' := 10) (v := v27) kc_12_9 rfl ev27 ?_
      refine xcps4 (xj_set (v := v27) hy25 ry25 2 (by first | omega | decide) (by first | omega | decide)) (fun y28 s28 hy28 ry28 => ?_)
      refine xi_iastore (pc' := 11) (x' := y28) kc_12_10 rfl A25 rfl (xi_in (by decide) (by rw [hy25]; decide)) s28 (fun hh28 eh28 => ?_)
      have K29 := xk_pa K17 (xk_wa rfl) xD_140 hy28 ry28 eh28
      refine xi_iload_n (pc' := 12) (x := (-2)) kc_12_11 rfl rfl ?_
      refine xi_ireturn kc_12_12 mr_12 rfl ?_
      show xw J ov (d + 8) 73 (29, [(0, .ref 115), (1, .int x1), (2, .int x2)], [.int (-2)], hh28) _
      refine xi_ireturn kc_73_29 mr_73 rfl ?_
      have zcm2 : ((-2) : Int32).toInt = (-2) := by decide
      exact kk (-2) hh28 K29
    · refine xi_cmf (pc' := 10) kc_11_7 rfl (xc_gt_f (X := x1.toInt) (Y := 3) rfl (by decide) (by omega)) ?_
      refine xi_iconst (pc' := 11) (v := 1) kc_11_10 rfl rfl ?_
      refine xi_goto (pc' := 15) kc_11_11 rfl ?_
      refine xi_ireturn kc_11_15 mr_11 rfl ?_
      show xw J ov (d + 8) 73 (11, [(0, .ref 115), (1, .int x1), (2, .int x2)], [.int 1], hh16) _
      refine xi_iff (pc' := 14) kc_73_11 rfl rfl ?_
      refine xi_iload_n (pc' := 15) (x := x2) kc_73_14 rfl rfl ?_
      refine xi_iconst (pc' := 16) (v := 0) kc_73_15 rfl rfl ?_
      refine xi_iconst (pc' := 17) (v := 1) kc_73_16 rfl rfl ?_
      refine xi_static (mj := 11) (as := [.int x2, .int 0, .int 1]) (st1 := []) (lv0 := [(0, .int x2), (1, .int 0), (2, .int 1)]) kc_73_17 rfl rfl (Nat.le_of_ble_eq_true rfl) rfl rfl (Nat.le_of_ble_eq_true rfl) (hJ _ _ _ _ (by decide)) (xm_le ml_11 rfl) rfl ?_
      refine xi_iload_n (pc' := 1) (x := x2) kc_11_0 rfl rfl ?_
      refine xi_iload_n (pc' := 2) (x := 0) kc_11_1 rfl rfl ?_
      by_cases c30 : x2.toInt < 0
      · refine xi_cmt (pc' := 14) kc_11_2 rfl (xc_lt_t (X := x2.toInt) (Y := 0) rfl (by decide) (by omega)) ?_
        refine xi_iconst (pc' := 15) (v := 0) kc_11_14 rfl rfl ?_
        refine xi_ireturn kc_11_15 mr_11 rfl ?_
        show xw J ov (d + 8) 73 (20, [(0, .ref 115), (1, .int x1), (2, .int x2)], [.int 0], hh16) _
        refine xi_iff (pc' := 23) kc_73_20 rfl rfl ?_
        refine xi_aload_n (pc' := 24) (x := 115) kc_73_23 rfl rfl ?_
        refine xi_bipush (pc' := 26) (v := (-2)) kc_73_24 rfl rfl ?_
        refine xi_virtual (mj := 12) (as := [.int (-2)]) (st1 := []) (lv0 := [(0, .ref 115), (1, .int (-2))]) kc_73_26 rfl rfl rfl rfl rfl eh15.1 (Nat.le_of_ble_eq_true rfl) (hJ _ _ _ _ (by decide)) (xm_le ml_12 rfl) rfl ?_
        refine xi_aload_n (pc' := 1) (x := 115) kc_12_0 rfl rfl ?_
        refine xi_getfield (pc' := 4) (v := .ref 140) kc_12_1 rfl rfl rfl eh15.1 rfl ?_
        refine xi_iload_n (pc' := 5) (x := (-2)) kc_12_4 rfl rfl ?_
        refine xi_ineg (pc' := 6) (v := 2) kc_12_5 rfl rfl ?_
        refine xi_dup2 (pc' := 7) kc_12_6 rfl ⟨rfl, rfl⟩ ?_
        refine xcps4 (xk_arr K17.1 xD_140) (fun y31 A31 hy31 ry31 => ?_)
        refine xcps4 (xj_get hy31 ry31 (i := 2) (by decide) (by decide)) (fun v32 ev32 bv32 dv32 => ?_)
        refine xi_iaload (pc' := 8) (v := v32) kc_12_7 rfl A31 (by decide) rfl (xi_in (by decide) (by rw [hy31]; decide)) ev32 ?_
        refine xi_iconst (pc' := 9) (v := 1) kc_12_8 rfl rfl ?_
        refine xcps2 (α := Int32) ((v32 : Int32) + 1) (fun v33 ev33 => ?_)
        have rv33 := xc_rng v33
        refine xi_iadd (pc' := 10) (v := v33) kc_12_9 rfl ev33 ?_
        refine xcps4 (xj_set (v := v33) hy31 ry31 2 (by first | omega | decide) (by first | omega | decide)) (fun y34 s34 hy34 ry34 => ?_)
        refine xi_iastore (pc' := 11) (x' := y34) kc_12_10 rfl A31 rfl (xi_in (by decide) (by rw [hy31]; decide)) s34 (fun hh34 eh34 => ?_)
        have K35 := xk_pa K17 (xk_wa rfl) xD_140 hy34 ry34 eh34
        refine xi_iload_n (pc' := 12) (x := (-2)) kc_12_11 rfl rfl ?_
        refine xi_ireturn kc_12_12 mr_12 rfl ?_
        show xw J ov (d + 8) 73 (29, [(0, .ref 115), (1, .int x1), (2, .int x2)], [.int (-2)], hh34) _
        refine xi_ireturn kc_73_29 mr_73 rfl ?_
        have zcm2 : ((-2) : Int32).toInt = (-2) := by decide
        exact kk (-2) hh34 K35
      · refine xi_cmf (pc' := 5) kc_11_2 rfl (xc_lt_f (X := x2.toInt) (Y := 0) rfl (by decide) (by omega)) ?_
        refine xi_iload_n (pc' := 6) (x := x2) kc_11_5 rfl rfl ?_
        refine xi_iload_n (pc' := 7) (x := 1) kc_11_6 rfl rfl ?_
        by_cases c36 : 1 < x2.toInt
        · refine xi_cmt (pc' := 14) kc_11_7 rfl (xc_gt_t (X := x2.toInt) (Y := 1) rfl (by decide) (by omega)) ?_
          refine xi_iconst (pc' := 15) (v := 0) kc_11_14 rfl rfl ?_
          refine xi_ireturn kc_11_15 mr_11 rfl ?_
          show xw J ov (d + 8) 73 (20, [(0, .ref 115), (1, .int x1), (2, .int x2)], [.int 0], hh16) _
          refine xi_iff (pc' := 23) kc_73_20 rfl rfl ?_
          refine xi_aload_n (pc' := 24) (x := 115) kc_73_23 rfl rfl ?_
          refine xi_bipush (pc' := 26) (v := (-2)) kc_73_24 rfl rfl ?_
          refine xi_virtual (mj := 12) (as := [.int (-2)]) (st1 := []) (lv0 := [(0, .ref 115), (1, .int (-2))]) kc_73_26 rfl rfl rfl rfl rfl eh15.1 (Nat.le_of_ble_eq_true rfl) (hJ _ _ _ _ (by decide)) (xm_le ml_12 rfl) rfl ?_
          refine xi_aload_n (pc' := 1) (x := 115) kc_12_0 rfl rfl ?_
          refine xi_getfield (pc' := 4) (v := .ref 140) kc_12_1 rfl rfl rfl eh15.1 rfl ?_
          refine xi_iload_n (pc' := 5) (x := (-2)) kc_12_4 rfl rfl ?_
          refine xi_ineg (pc' := 6) (v := 2) kc_12_5 rfl rfl ?_
          refine xi_dup2 (pc' := 7) kc_12_6 rfl ⟨rfl, rfl⟩ ?_
          refine xcps4 (xk_arr K17.1 xD_140) (fun y37 A37 hy37 ry37 => ?_)
          refine xcps4 (xj_get hy37 ry37 (i := 2) (by decide) (by decide)) (fun v38 ev38 bv38 dv38 => ?_)
          refine xi_iaload (pc' := 8) (v := v38) kc_12_7 rfl A37 (by decide) rfl (xi_in (by decide) (by rw [hy37]; decide)) ev38 ?_
          refine xi_iconst (pc' := 9) (v := 1) kc_12_8 rfl rfl ?_
          refine xcps2 (α := Int32) ((v38 : Int32) + 1) (fun v39 ev39 => ?_)
          have rv39 := xc_rng v39
          refine xi_iadd (pc' := 10) (v := v39) kc_12_9 rfl ev39 ?_
          refine xcps4 (xj_set (v := v39) hy37 ry37 2 (by first | omega | decide) (by first | omega | decide)) (fun y40 s40 hy40 ry40 => ?_)
          refine xi_iastore (pc' := 11) (x' := y40) kc_12_10 rfl A37 rfl (xi_in (by decide) (by rw [hy37]; decide)) s40 (fun hh40 eh40 => ?_)
          have K41 := xk_pa K17 (xk_wa rfl) xD_140 hy40 ry40 eh40
          refine xi_iload_n (pc' := 12) (x := (-2)) kc_12_11 rfl rfl ?_
          refine xi_ireturn kc_12_12 mr_12 rfl ?_
          show xw J ov (d + 8) 73 (29, [(0, .ref 115), (1, .int x1), (2, .int x2)], [.int (-2)], hh40) _
          refine xi_ireturn kc_73_29 mr_73 rfl ?_
          have zcm2 : ((-2) : Int32).toInt = (-2) := by decide
          exact kk (-2) hh40 K41
        · refine xi_cmf (pc' := 10) kc_11_7 rfl (xc_gt_f (X := x2.toInt) (Y := 1) rfl (by decide) (by omega)) ?_
          refine xi_iconst (pc' := 11) (v := 1) kc_11_10 rfl rfl ?_
          refine xi_goto (pc' := 15) kc_11_11 rfl ?_
          refine xi_ireturn kc_11_15 mr_11 rfl ?_
          show xw J ov (d + 8) 73 (20, [(0, .ref 115), (1, .int x1), (2, .int x2)], [.int 1], hh16) _
          refine xi_ift (pc' := 30) kc_73_20 rfl rfl ?_
          refine xi_aload_n (pc' := 31) (x := 115) kc_73_30 rfl rfl ?_
          refine xi_virtual (mj := 48) (as := []) (st1 := []) (lv0 := [(0, .ref 115)]) kc_73_31 rfl rfl rfl rfl rfl eh15.1 (Nat.le_of_ble_eq_true rfl) (hJ _ _ _ _ (by decide)) (xm_le ml_48 rfl) rfl ?_
          refine mt_48_0 hJ hov1 hov2 (d := d)  K17.1 (fun r42 hh43 br42 K44 => ?_)
          have K45 := xk_tr K17 K44 rfl
          refine xp_115 K45.1 (fun u46 u47 u48 u49 u50 u51 u52 u53 u54 u55 u56 u57 u58 bu46 bu47 bu48 bu49 bu50 bu51 bu52 bu53 bu54 bu55 bu56 bu57 bu58 A59 => ?_)
          have e60 : u2 = u47 := xk_eqi (q := 1) K44 rfl eh15.1 A59 rfl rfl
          subst e60
          have e61 : u4 = u49 := xk_eqi (q := 18) K44 rfl eh15.1 A59 rfl rfl
          subst e61
          show xw J ov (d + 8) 73 (34, [(0, .ref 115), (1, .int x1), (2, .int x2)], [.int r42], hh43) _
          refine xi_istore_n (pc' := 35) (lv' := [(3, .int r42), (0, .ref 115), (1, .int x1), (2, .int x2)]) kc_73_34 rfl rfl (xm_lt ml_73 rfl) ?_
          refine xi_iconst (pc' := 36) (v := 0) kc_73_35 rfl rfl ?_
          refine xi_istore (pc' := 38) (lv' := [(4, .int 0), (3, .int r42), (0, .ref 115), (1, .int x1), (2, .int x2)]) kc_73_36 rfl rfl (xm_lt ml_73 rfl) ?_
          refine xi_iconst (pc' := 39) (v := 0) kc_73_38 rfl rfl ?_
          refine xi_istore (pc' := 41) (lv' := [(5, .int 0), (4, .int 0), (3, .int r42), (0, .ref 115), (1, .int x1), (2, .int x2)]) kc_73_39 rfl rfl (xm_lt ml_73 rfl) ?_
          have zc0 : (0 : Int32).toInt = 0 := by decide
          refine xw_lv (b := [(0, .ref 115), (1, .int x1), (2, .int x2), (3, .int r42), (4, .int 0), (5, .int 0)]) (lvS_cons (lvS_cons (lvS_cons (lvS_cons (lvS_cons (lvS_cons (lvS_nil (show ([5, 4, 3, 0, 1, 2] : List Nat).Nodup by decide)) rfl) rfl) rfl) rfl) rfl) rfl) ?_
          exact (lp_73_0 hJ hov1 hov2 (d := d) (hb := hh43) (fun r9 h9 K9 => kk r9 h9 (xk_tr K45 K9 rfl)) 20).1 x1 x2 r42 0 0 hh43 (by omega) (by omega) (by omega) (by omega) (by omega) (xk_re K45.1) (by omega)
set_option maxHeartbeats 4000000 in
theorem mt_74_0 {J : xe_J} {ov : List (List Int32)} (hJ : ∀ d mj as h, mj ≠ xe_loff → J d mj as h = none) (hov1 : ov[1]? = some [10, 0, 0, 0, 0, 0]) (hov2 : ov[2]? = some [99, 30, 50, 50, 1, 99999]) {d : Nat} {Q : Option Value → xe_H → Prop} {h : xe_H} {x1 : Int32} (T : xt h) (kk : (∀ (r : Int32) (h' : xe_H), ((-2) ≤ r.toInt ∧ r.toInt ≤ 1) → xk [(0, 9), (115, 1), (83, 0), (29, 0), (31, 0), (33, 0), (35, 0), (37, 0), (39, 0), (41, 0), (43, 0), (45, 0), (47, 0), (49, 0), (51, 0), (125, 0), (66, 8), (115, 18), (71, 0), (132, 0)] h h' → Q (some (.int r)) h')) : xw J ov (d + 1) 74 (0, [(0, .ref 115), (1, .int x1)], [], h) Q := by
  have K : xk [(0, 9), (115, 1), (83, 0), (29, 0), (31, 0), (33, 0), (35, 0), (37, 0), (39, 0), (41, 0), (43, 0), (45, 0), (47, 0), (49, 0), (51, 0), (125, 0), (66, 8), (115, 18), (71, 0), (132, 0)] h h := xk_re T
  have rx1 := xc_rng x1
  refine xi_aload_n (pc' := 1) (x := 115) kc_74_0 rfl rfl ?_
  refine xi_iconst (pc' := 2) (v := 0) kc_74_1 rfl rfl ?_
  refine xp_115 K.1 (fun u1 u2 u3 u4 u5 u6 u7 u8 u9 u10 u11 u12 u13 bu1 bu2 bu3 bu4 bu5 bu6 bu7 bu8 bu9 bu10 bu11 bu12 bu13 A14 => ?_)
  refine xi_putfield (pc' := 5) (fs' := [.int 0, .int u2, .ref 116, .ref 117, .ref 118, .ref 119, .ref 120, .ref 121, .ref 122, .ref 123, .ref 124, .ref 125, .ref 126, .ref 127, .ref 128, .ref 129, .int u3, .ref 130, .int u4, .ref 131, .ref 132, .ref 133, .ref 134, .int u5, .ref 135, .ref 136, .ref 137, .ref 138, .ref 139, .ref 140, .ref 141, .ref 142, .int u6, .int u7, .int u8, .ref 143, .ref 144, .ref 145, .ref 146, .ref 147, .ref 148, .int u9, .ref 149, .ref 150, .ref 151, .int u10, .ref 152, .ref 153, .ref 154, .ref 155, .ref 156, .ref 157, .ref 158, .ref 159, .int u11, .ref 160, .int u12, .ref 161, .ref 162, .ref 163, .ref 164, .int u13, .ref 165, .ref 166]) kc_74_2 rfl rfl rfl A14 rfl rfl rfl (Nat.le_of_ble_eq_true rfl) rfl (fun hh16 eh15 => ?_)
  have K17 := xk_pf (k := 0) (v := 0) K (xk_wf rfl) xD_115 A14 rfl (by first | omega | decide) (by first | omega | decide) eh15 rfl
  refine xi_iload_n (pc' := 6) (x := x1) kc_74_5 rfl rfl ?_
  refine xi_iconst (pc' := 7) (v := 0) kc_74_6 rfl rfl ?_
  refine xi_iconst (pc' := 8) (v := 3) kc_74_7 rfl rfl ?_
  refine xi_static (mj := 11) (as := [.int x1, .int 0, .int 3]) (st1 := []) (lv0 := [(0, .int x1), (1, .int 0), (2, .int 3)]) kc_74_8 rfl rfl (Nat.le_of_ble_eq_true rfl) rfl rfl (Nat.le_of_ble_eq_true rfl) (hJ _ _ _ _ (by decide)) (xm_le ml_11 rfl) rfl ?_
  refine xi_iload_n (pc' := 1) (x := x1) kc_11_0 rfl rfl ?_
  refine xi_iload_n (pc' := 2) (x := 0) kc_11_1 rfl rfl ?_
  by_cases c18 : x1.toInt < 0
  · refine xi_cmt (pc' := 14) kc_11_2 rfl (xc_lt_t (X := x1.toInt) (Y := 0) rfl (by decide) (by omega)) ?_
    refine xi_iconst (pc' := 15) (v := 0) kc_11_14 rfl rfl ?_
    refine xi_ireturn kc_11_15 mr_11 rfl ?_
    show xw J ov (d + 1) 74 (11, [(0, .ref 115), (1, .int x1)], [.int 0], hh16) _
    refine xi_iff (pc' := 14) kc_74_11 rfl rfl ?_
    refine xi_aload_n (pc' := 15) (x := 115) kc_74_14 rfl rfl ?_
    refine xi_bipush (pc' := 17) (v := (-2)) kc_74_15 rfl rfl ?_
    refine xi_virtual (mj := 12) (as := [.int (-2)]) (st1 := []) (lv0 := [(0, .ref 115), (1, .int (-2))]) kc_74_17 rfl rfl rfl rfl rfl eh15.1 (Nat.le_of_ble_eq_true rfl) (hJ _ _ _ _ (by decide)) (xm_le ml_12 rfl) rfl ?_
    refine xi_aload_n (pc' := 1) (x := 115) kc_12_0 rfl rfl ?_
    refine xi_getfield (pc' := 4) (v := .ref 140) kc_12_1 rfl rfl rfl eh15.1 rfl ?_
    refine xi_iload_n (pc' := 5) (x := (-2)) kc_12_4 rfl rfl ?_
    refine xi_ineg (pc' := 6) (v := 2) kc_12_5 rfl rfl ?_
    refine xi_dup2 (pc' := 7) kc_12_6 rfl ⟨rfl, rfl⟩ ?_
    refine xcps4 (xk_arr K17.1 xD_140) (fun y19 A19 hy19 ry19 => ?_)
    refine xcps4 (xj_get hy19 ry19 (i := 2) (by decide) (by decide)) (fun v20 ev20 bv20 dv20 => ?_)
    refine xi_iaload (pc' := 8) (v := v20) kc_12_7 rfl A19 (by decide) rfl (xi_in (by decide) (by rw [hy19]; decide)) ev20 ?_
    refine xi_iconst (pc' := 9) (v := 1) kc_12_8 rfl rfl ?_
    refine xcps2 (α := Int32) ((v20 : Int32) + 1) (fun v21 ev21 => ?_)
    have rv21 := xc_rng v21
    refine xi_iadd (pc' := 10) (v := v21) kc_12_9 rfl ev21 ?_
    refine xcps4 (xj_set (v := v21) hy19 ry19 2 (by first | omega | decide) (by first | omega | decide)) (fun y22 s22 hy22 ry22 => ?_)
    refine xi_iastore (pc' := 11) (x' := y22) kc_12_10 rfl A19 rfl (xi_in (by decide) (by rw [hy19]; decide)) s22 (fun hh22 eh22 => ?_)
    have K23 := xk_pa K17 (xk_wa rfl) xD_140 hy22 ry22 eh22
    refine xi_iload_n (pc' := 12) (x := (-2)) kc_12_11 rfl rfl ?_
    refine xi_ireturn kc_12_12 mr_12 rfl ?_
    show xw J ov (d + 1) 74 (20, [(0, .ref 115), (1, .int x1)], [.int (-2)], hh22) _
    refine xi_ireturn kc_74_20 mr_74 rfl ?_
    have zcm2 : ((-2) : Int32).toInt = (-2) := by decide
    exact kk (-2) hh22 (by omega) K23
  · refine xi_cmf (pc' := 5) kc_11_2 rfl (xc_lt_f (X := x1.toInt) (Y := 0) rfl (by decide) (by omega)) ?_
    refine xi_iload_n (pc' := 6) (x := x1) kc_11_5 rfl rfl ?_
    refine xi_iload_n (pc' := 7) (x := 3) kc_11_6 rfl rfl ?_
    by_cases c24 : 3 < x1.toInt
    · refine xi_cmt (pc' := 14) kc_11_7 rfl (xc_gt_t (X := x1.toInt) (Y := 3) rfl (by decide) (by omega)) ?_
      refine xi_iconst (pc' := 15) (v := 0) kc_11_14 rfl rfl ?_
      refine xi_ireturn kc_11_15 mr_11 rfl ?_
      show xw J ov (d + 1) 74 (11, [(0, .ref 115), (1, .int x1)], [.int 0], hh16) _
      refine xi_iff (pc' := 14) kc_74_11 rfl rfl ?_
      refine xi_aload_n (pc' := 15) (x := 115) kc_74_14 rfl rfl ?_
      refine xi_bipush (pc' := 17) (v := (-2)) kc_74_15 rfl rfl ?_
      refine xi_virtual (mj := 12) (as := [.int (-2)]) (st1 := []) (lv0 := [(0, .ref 115), (1, .int (-2))]) kc_74_17 rfl rfl rfl rfl rfl eh15.1 (Nat.le_of_ble_eq_true rfl) (hJ _ _ _ _ (by decide)) (xm_le ml_12 rfl) rfl ?_
      refine xi_aload_n (pc' := 1) (x := 115) kc_12_0 rfl rfl ?_
      refine xi_getfield (pc' := 4) (v := .ref 140) kc_12_1 rfl rfl rfl eh15.1 rfl ?_
      refine xi_iload_n (pc' := 5) (x := (-2)) kc_12_4 rfl rfl ?_
      refine xi_ineg (pc' := 6) (v := 2) kc_12_5 rfl rfl ?_
      refine xi_dup2 (pc' := 7) kc_12_6 rfl ⟨rfl, rfl⟩ ?_
      refine xcps4 (xk_arr K17.1 xD_140) (fun y25 A25 hy25 ry25 => ?_)
      refine xcps4 (xj_get hy25 ry25 (i := 2) (by decide) (by decide)) (fun v26 ev26 bv26 dv26 => ?_)
      refine xi_iaload (pc' := 8) (v := v26) kc_12_7 rfl A25 (by decide) rfl (xi_in (by decide) (by rw [hy25]; decide)) ev26 ?_
      refine xi_iconst (pc' := 9) (v := 1) kc_12_8 rfl rfl ?_
      refine xcps2 (α := Int32) ((v26 : Int32) + 1) (fun v27 ev27 => ?_)
      have rv27 := xc_rng v27
      refine xi_iadd (pc' := 10) (v := v27) kc_12_9 rfl ev27 ?_
      refine xcps4 (xj_set (v := v27) hy25 ry25 2 (by first | omega | decide) (by first | omega | decide)) (fun y28 s28 hy28 ry28 => ?_)
      refine xi_iastore (pc' := 11) (x' := y28) kc_12_10 rfl A25 rfl (xi_in (by decide) (by rw [hy25]; decide)) s28 (fun hh28 eh28 => ?_)
      have K29 := xk_pa K17 (xk_wa rfl) xD_140 hy28 ry28 eh28
      refine xi_iload_n (pc' := 12) (x := (-2)) kc_12_11 rfl rfl ?_
      refine xi_ireturn kc_12_12 mr_12 rfl ?_
      show xw J ov (d + 1) 74 (20, [(0, .ref 115), (1, .int x1)], [.int (-2)], hh28) _
      refine xi_ireturn kc_74_20 mr_74 rfl ?_
      have zcm2 : ((-2) : Int32).toInt = (-2) := by decide
      exact kk (-2) hh28 (by omega) K29
    · refine xi_cmf (pc' := 10) kc_11_7 rfl (xc_gt_f (X := x1.toInt) (Y := 3) rfl (by decide) (by omega)) ?_
      refine xi_iconst (pc' := 11) (v := 1) kc_11_10 rfl rfl ?_
      refine xi_goto (pc' := 15) kc_11_11 rfl ?_
      refine xi_ireturn kc_11_15 mr_11 rfl ?_
      show xw J ov (d + 1) 74 (11, [(0, .ref 115), (1, .int x1)], [.int 1], hh16) _
      refine xi_ift (pc' := 21) kc_74_11 rfl rfl ?_
      refine xi_aload_n (pc' := 22) (x := 115) kc_74_21 rfl rfl ?_
      refine xi_getfield (pc' := 25) (v := .ref 165) kc_74_22 rfl rfl rfl eh15.1 rfl ?_
      refine xi_iconst (pc' := 26) (v := 2) kc_74_25 rfl rfl ?_
      refine xi_iload_n (pc' := 27) (x := x1) kc_74_26 rfl rfl ?_
      refine xcps2 (α := Int32) (2 * x1) (fun v30 ev30 => ?_)
      have zv30 : v30.toInt = (2) * x1.toInt := by rw [← ev30]; exact (xz_mul (X := 2) (Y := x1.toInt) (by decide) rfl (by omega) (by omega)).trans (by omega)
      refine xi_imul (pc' := 28) (v := v30) kc_74_27 rfl ev30 ?_
      refine xcps4 (xk_arr K17.1 xD_165) (fun y31 A31 hy31 ry31 => ?_)
      refine xcps4 (xj_get hy31 ry31 (i := v30) (by rw [zv30]; omega) (by rw [zv30]; omega)) (fun v32 ev32 bv32 dv32 => ?_)
      refine xi_iaload (pc' := 29) (v := v32) kc_74_28 rfl A31 (by decide) rfl (xi_in (by rw [zv30]; omega) (by rw [hy31]; rw [zv30]; omega)) ev32 ?_
      by_cases c33 : v32.toInt < 0
      · refine xi_ift (pc' := 70) kc_74_29 rfl (xc_lt_t (X := v32.toInt) (Y := 0) rfl (by decide) (by omega)) ?_
        refine xi_iconst (pc' := 71) (v := 0) kc_74_70 rfl rfl ?_
        refine xi_ireturn kc_74_71 mr_74 rfl ?_
        have zc0 : (0 : Int32).toInt = 0 := by decide
        exact kk 0 hh16 (by omega) K17
      · refine xi_iff (pc' := 32) kc_74_29 rfl (xc_lt_f (X := v32.toInt) (Y := 0) rfl (by decide) (by omega)) ?_
        refine xi_aload_n (pc' := 33) (x := 115) kc_74_32 rfl rfl ?_
        refine xi_getfield (pc' := 36) (v := .ref 165) kc_74_33 rfl rfl rfl eh15.1 rfl ?_
        refine xi_iconst (pc' := 37) (v := 2) kc_74_36 rfl rfl ?_
        refine xi_iload_n (pc' := 38) (x := x1) kc_74_37 rfl rfl ?_
        refine xi_imul (pc' := 39) (v := v30) kc_74_38 rfl ev30 ?_
        refine xi_iconst (pc' := 40) (v := 1) kc_74_39 rfl rfl ?_
        refine xcps2 (α := Int32) (v30 + 1) (fun v34 ev34 => ?_)
        have zv34 : v34.toInt = ((2) * x1.toInt + 1) := by rw [← ev34]; exact (xz_add (X := (2) * x1.toInt) (Y := 1) zv30 (by decide) (by omega) (by omega)).trans (by omega)
        refine xi_iadd (pc' := 41) (v := v34) kc_74_40 rfl ev34 ?_
        refine xcps4 (xj_get hy31 ry31 (i := v34) (by rw [zv34]; omega) (by rw [zv34]; omega)) (fun v35 ev35 bv35 dv35 => ?_)
        refine xi_iaload (pc' := 42) (v := v35) kc_74_41 rfl A31 (by decide) rfl (xi_in (by rw [zv34]; omega) (by rw [hy31]; rw [zv34]; omega)) ev35 ?_
        by_cases c36 : v35.toInt < 0
        · refine xi_ift (pc' := 70) kc_74_42 rfl (xc_lt_t (X := v35.toInt) (Y := 0) rfl (by decide) (by omega)) ?_
          refine xi_iconst (pc' := 71) (v := 0) kc_74_70 rfl rfl ?_
          refine xi_ireturn kc_74_71 mr_74 rfl ?_
          have zc0 : (0 : Int32).toInt = 0 := by decide
          exact kk 0 hh16 (by omega) K17
        · refine xi_iff (pc' := 45) kc_74_42 rfl (xc_lt_f (X := v35.toInt) (Y := 0) rfl (by decide) (by omega)) ?_
          refine xi_aload_n (pc' := 46) (x := 115) kc_74_45 rfl rfl ?_
          refine xi_getfield (pc' := 49) (v := .ref 165) kc_74_46 rfl rfl rfl eh15.1 rfl ?_
          refine xi_iconst (pc' := 50) (v := 2) kc_74_49 rfl rfl ?_
          refine xi_iload_n (pc' := 51) (x := x1) kc_74_50 rfl rfl ?_
          refine xi_imul (pc' := 52) (v := v30) kc_74_51 rfl ev30 ?_
          refine xi_iaload (pc' := 53) (v := v32) kc_74_52 rfl A31 (by decide) rfl (xi_in (by rw [zv30]; omega) (by rw [hy31]; rw [zv30]; omega)) ev32 ?_
          refine xi_aload_n (pc' := 54) (x := 115) kc_74_53 rfl rfl ?_
          refine xi_getfield (pc' := 57) (v := .ref 165) kc_74_54 rfl rfl rfl eh15.1 rfl ?_
          refine xi_iconst (pc' := 58) (v := 2) kc_74_57 rfl rfl ?_
          refine xi_iload_n (pc' := 59) (x := x1) kc_74_58 rfl rfl ?_
          refine xi_imul (pc' := 60) (v := v30) kc_74_59 rfl ev30 ?_
          refine xi_iconst (pc' := 61) (v := 1) kc_74_60 rfl rfl ?_
          refine xi_iadd (pc' := 62) (v := v34) kc_74_61 rfl ev34 ?_
          refine xi_iaload (pc' := 63) (v := v35) kc_74_62 rfl A31 (by decide) rfl (xi_in (by rw [zv34]; omega) (by rw [hy31]; rw [zv34]; omega)) ev35 ?_
          by_cases c37 : v32.toInt = v35.toInt
          · refine xi_cmt (pc' := 70) kc_74_63 rfl (xc_eq_t (X := v32.toInt) (Y := v35.toInt) rfl rfl (by omega)) ?_
            refine xi_iconst (pc' := 71) (v := 0) kc_74_70 rfl rfl ?_
            refine xi_ireturn kc_74_71 mr_74 rfl ?_
            have zc0 : (0 : Int32).toInt = 0 := by decide
            exact kk 0 hh16 (by omega) K17
          · refine xi_cmf (pc' := 66) kc_74_63 rfl (xc_eq_f (X := v32.toInt) (Y := v35.toInt) rfl rfl (by omega)) ?_
            refine xi_iconst (pc' := 67) (v := 1) kc_74_66 rfl rfl ?_
            refine xi_goto (pc' := 71) kc_74_67 rfl ?_
            refine xi_ireturn kc_74_71 mr_74 rfl ?_
            have zc1 : (1 : Int32).toInt = 1 := by decide
            exact kk 1 hh16 (by omega) K17
set_option maxHeartbeats 4000000 in
theorem lp_75_0 {J : xe_J} {ov : List (List Int32)} (hJ : ∀ d mj as h, mj ≠ xe_loff → J d mj as h = none) (hov1 : ov[1]? = some [10, 0, 0, 0, 0, 0]) (hov2 : ov[2]? = some [99, 30, 50, 50, 1, 99999]) {d : Nat} {Q : Option Value → xe_H → Prop} {hb : xe_H} (kk : (∀ (r : Int32) (h' : xe_H), xk [(0, 9), (115, 1), (83, 0), (29, 0), (31, 0), (33, 0), (35, 0), (37, 0), (39, 0), (41, 0), (43, 0), (45, 0), (47, 0), (49, 0), (51, 0), (125, 0), (66, 8), (115, 18), (71, 0), (132, 0)] hb h' → Q (some (.int r)) h')) : ∀ m : Nat, (∀ (x2 : Int32) (x3 : Int32) (h : xe_H), (0 ≤ x3.toInt ∧ x3.toInt ≤ 12) → xk [(0, 9), (115, 1), (83, 0), (29, 0), (31, 0), (33, 0), (35, 0), (37, 0), (39, 0), (41, 0), (43, 0), (45, 0), (47, 0), (49, 0), (51, 0), (125, 0), (66, 8), (115, 18), (71, 0), (132, 0)] hb h → (-1) * x3.toInt + 32 < (m : Int) → xw J ov (d + 2) 75 (71, [(0, .ref 115), (2, .int x2), (3, .int x3)], [], h) Q) ∧ (∀ (x2 : Int32) (x3 : Int32) (h : xe_H), (0 ≤ x3.toInt ∧ x3.toInt ≤ 10) → xk [(0, 9), (115, 1), (83, 0), (29, 0), (31, 0), (33, 0), (35, 0), (37, 0), (39, 0), (41, 0), (43, 0), (45, 0), (47, 0), (49, 0), (51, 0), (125, 0), (66, 8), (115, 18), (71, 0), (132, 0)] hb h → (-1) * x3.toInt + 19 < (m : Int) → xw J ov (d + 2) 75 (114, [(0, .ref 115), (2, .int x2), (3, .int x3)], [], h) Q) ∧ (∀ (x2 : Int32) (x3 : Int32) (h : xe_H), (0 ≤ x3.toInt ∧ x3.toInt ≤ 8) → xk [(0, 9), (115, 1), (83, 0), (29, 0), (31, 0), (33, 0), (35, 0), (37, 0), (39, 0), (41, 0), (43, 0), (45, 0), (47, 0), (49, 0), (51, 0), (125, 0), (66, 8), (115, 18), (71, 0), (132, 0)] hb h → (-1) * x3.toInt + 8 < (m : Int) → xw J ov (d + 2) 75 (154, [(0, .ref 115), (2, .int x2), (3, .int x3)], [], h) Q) := by
  intro m
  induction m with
  | zero =>
    refine ⟨?_, ?_, ?_⟩
    · intro x2 x3 h b3 K hm; have rx2 := xc_rng x2; exfalso; omega
    · intro x2 x3 h b3 K hm; have rx2 := xc_rng x2; exfalso; omega
    · intro x2 x3 h b3 K hm; have rx2 := xc_rng x2; exfalso; omega
  | succ m ih =>
    obtain ⟨i0, i1, i2⟩ := ih
    refine ⟨?_, ?_, ?_⟩
    · intro x2 x3 h b3 K hm
      have rx2 := xc_rng x2
      refine xi_iload_n (pc' := 72) (x := x3) kc_75_71 rfl rfl ?_
      refine xi_bipush (pc' := 74) (v := 12) kc_75_72 rfl rfl ?_
      by_cases c1 : 12 ≤ x3.toInt
      · refine xi_cmt (pc' := 100) kc_75_74 rfl (xc_ge_t (X := x3.toInt) (Y := 12) rfl (by decide) (by omega)) ?_
        refine xi_iload_n (pc' := 101) (x := x2) kc_75_100 rfl rfl ?_
        refine xi_ireturn kc_75_101 mr_75 rfl ?_
        exact kk x2 h K
      · refine xi_cmf (pc' := 77) kc_75_74 rfl (xc_ge_f (X := x3.toInt) (Y := 12) rfl (by decide) (by omega)) ?_
        refine xi_iload_n (pc' := 78) (x := x2) kc_75_77 rfl rfl ?_
        refine xi_aload_n (pc' := 79) (x := 115) kc_75_78 rfl rfl ?_
        refine xp_115 K.1 (fun u2 u3 u4 u5 u6 u7 u8 u9 u10 u11 u12 u13 u14 bu2 bu3 bu4 bu5 bu6 bu7 bu8 bu9 bu10 bu11 bu12 bu13 bu14 A15 => ?_)
        refine xi_getfield (pc' := 82) (v := .ref 125) kc_75_79 rfl rfl rfl A15 rfl ?_
        refine xi_iload_n (pc' := 83) (x := x3) kc_75_82 rfl rfl ?_
        refine xcps4 (xk_arr K.1 xD_125) (fun y16 A16 hy16 ry16 => ?_)
        refine xcps4 (xj_get hy16 ry16 (i := x3) (by omega) (by omega)) (fun v17 ev17 bv17 dv17 => ?_)
        refine xi_iaload (pc' := 84) (v := v17) kc_75_83 rfl A16 (by decide) rfl (xi_in (by omega) (by rw [hy16]; omega)) ev17 ?_
        by_cases c18 : v17.toInt < 0
        · refine xi_ift (pc' := 91) kc_75_84 rfl (xc_lt_t (X := v17.toInt) (Y := 0) rfl (by decide) (by omega)) ?_
          refine xi_iconst (pc' := 92) (v := 0) kc_75_91 rfl rfl ?_
          refine xcps2 (α := Int32) (x2 + 0) (fun v19 ev19 => ?_)
          have zv19 : v19.toInt = x2.toInt := by rw [← ev19]; exact (xz_add (X := x2.toInt) (Y := 0) rfl (by decide) (by omega) (by omega)).trans (by omega)
          refine xi_iadd (pc' := 93) (v := v19) kc_75_92 rfl ev19 ?_
          refine xi_istore_n (pc' := 94) (lv' := [(2, .int v19), (0, .ref 115), (3, .int x3)]) kc_75_93 rfl rfl (xm_lt ml_75 rfl) ?_
          refine xcps2 (α := Int32) (x3 + 1) (fun v20 ev20 => ?_)
          have zv20 : v20.toInt = (x3.toInt + 1) := by rw [← ev20]; exact (xz_add (X := x3.toInt) (Y := 1) rfl (by decide) (by omega) (by omega)).trans (by omega)
          refine xi_iinc (pc' := 97) (x := x3) (v := v20) (lv' := [(3, .int v20), (2, .int v19), (0, .ref 115)]) kc_75_94 rfl rfl ev20 rfl (xm_lt ml_75 rfl) ?_
          refine xi_goto (pc' := 71) kc_75_97 rfl ?_
          refine xw_lv (b := [(0, .ref 115), (2, .int v19), (3, .int v20)]) (lvS_cons (lvS_cons (lvS_cons (lvS_nil (show ([3, 2, 0] : List Nat).Nodup by decide)) rfl) rfl) rfl) ?_
          exact i0 v19 v20 h (by omega) K (by omega)
        · refine xi_iff (pc' := 87) kc_75_84 rfl (xc_lt_f (X := v17.toInt) (Y := 0) rfl (by decide) (by omega)) ?_
          refine xi_iconst (pc' := 88) (v := 1) kc_75_87 rfl rfl ?_
          refine xi_goto (pc' := 92) kc_75_88 rfl ?_
          refine xcps2 (α := Int32) ((x2 : Int32) + 1) (fun v21 ev21 => ?_)
          have rv21 := xc_rng v21
          refine xi_iadd (pc' := 93) (v := v21) kc_75_92 rfl ev21 ?_
          refine xi_istore_n (pc' := 94) (lv' := [(2, .int v21), (0, .ref 115), (3, .int x3)]) kc_75_93 rfl rfl (xm_lt ml_75 rfl) ?_
          refine xcps2 (α := Int32) (x3 + 1) (fun v22 ev22 => ?_)
          have zv22 : v22.toInt = (x3.toInt + 1) := by rw [← ev22]; exact (xz_add (X := x3.toInt) (Y := 1) rfl (by decide) (by omega) (by omega)).trans (by omega)
          refine xi_iinc (pc' := 97) (x := x3) (v := v22) (lv' := [(3, .int v22), (2, .int v21), (0, .ref 115)]) kc_75_94 rfl rfl ev22 rfl (xm_lt ml_75 rfl) ?_
          refine xi_goto (pc' := 71) kc_75_97 rfl ?_
          refine xw_lv (b := [(0, .ref 115), (2, .int v21), (3, .int v22)]) (lvS_cons (lvS_cons (lvS_cons (lvS_nil (show ([3, 2, 0] : List Nat).Nodup by decide)) rfl) rfl) rfl) ?_
          exact i0 v21 v22 h (by omega) K (by omega)
    · intro x2 x3 h b3 K hm
      have rx2 := xc_rng x2
      refine xi_iload_n (pc' := 115) (x := x3) kc_75_114 rfl rfl ?_
      refine xi_aload_n (pc' := 116) (x := 115) kc_75_115 rfl rfl ?_
      refine xp_115 K.1 (fun u1 u2 u3 u4 u5 u6 u7 u8 u9 u10 u11 u12 u13 bu1 bu2 bu3 bu4 bu5 bu6 bu7 bu8 bu9 bu10 bu11 bu12 bu13 A14 => ?_)
      refine xi_getfield (pc' := 119) (v := .int u5) kc_75_116 rfl rfl rfl A14 rfl ?_
      by_cases c15 : u5.toInt ≤ x3.toInt
      · refine xi_cmt (pc' := 145) kc_75_119 rfl (xc_ge_t (X := x3.toInt) (Y := u5.toInt) rfl rfl (by omega)) ?_
        refine xi_iload_n (pc' := 146) (x := x2) kc_75_145 rfl rfl ?_
        refine xi_ireturn kc_75_146 mr_75 rfl ?_
        exact kk x2 h K
      · refine xi_cmf (pc' := 122) kc_75_119 rfl (xc_ge_f (X := x3.toInt) (Y := u5.toInt) rfl rfl (by omega)) ?_
        refine xi_iload_n (pc' := 123) (x := x2) kc_75_122 rfl rfl ?_
        refine xi_aload_n (pc' := 124) (x := 115) kc_75_123 rfl rfl ?_
        refine xi_getfield (pc' := 127) (v := .ref 139) kc_75_124 rfl rfl rfl A14 rfl ?_
        refine xi_iload_n (pc' := 128) (x := x3) kc_75_127 rfl rfl ?_
        refine xcps4 (xk_arr K.1 xD_139) (fun y16 A16 hy16 ry16 => ?_)
        refine xcps4 (xj_get hy16 ry16 (i := x3) (by omega) (by omega)) (fun v17 ev17 bv17 dv17 => ?_)
        refine xi_baload (pc' := 129) (v := v17) kc_75_128 rfl A16 rfl (xi_in (by omega) (by rw [hy16]; omega)) ev17 ?_
        by_cases c18 : v17.toInt = 0
        · refine xi_ift (pc' := 136) kc_75_129 rfl (xc_eq_t (X := v17.toInt) (Y := 0) rfl (by decide) (by omega)) ?_
          refine xi_iconst (pc' := 137) (v := 0) kc_75_136 rfl rfl ?_
          refine xcps2 (α := Int32) (x2 + 0) (fun v19 ev19 => ?_)
          have zv19 : v19.toInt = x2.toInt := by rw [← ev19]; exact (xz_add (X := x2.toInt) (Y := 0) rfl (by decide) (by omega) (by omega)).trans (by omega)
          refine xi_iadd (pc' := 138) (v := v19) kc_75_137 rfl ev19 ?_
          refine xi_istore_n (pc' := 139) (lv' := [(2, .int v19), (0, .ref 115), (3, .int x3)]) kc_75_138 rfl rfl (xm_lt ml_75 rfl) ?_
          refine xcps2 (α := Int32) (x3 + 1) (fun v20 ev20 => ?_)
          have zv20 : v20.toInt = (x3.toInt + 1) := by rw [← ev20]; exact (xz_add (X := x3.toInt) (Y := 1) rfl (by decide) (by omega) (by omega)).trans (by omega)
          refine xi_iinc (pc' := 142) (x := x3) (v := v20) (lv' := [(3, .int v20), (2, .int v19), (0, .ref 115)]) kc_75_139 rfl rfl ev20 rfl (xm_lt ml_75 rfl) ?_
          refine xi_goto (pc' := 114) kc_75_142 rfl ?_
          refine xw_lv (b := [(0, .ref 115), (2, .int v19), (3, .int v20)]) (lvS_cons (lvS_cons (lvS_cons (lvS_nil (show ([3, 2, 0] : List Nat).Nodup by decide)) rfl) rfl) rfl) ?_
          exact i1 v19 v20 h (by omega) K (by omega)
        · refine xi_iff (pc' := 132) kc_75_129 rfl (xc_eq_f (X := v17.toInt) (Y := 0) rfl (by decide) (by omega)) ?_
          refine xi_iconst (pc' := 133) (v := 1) kc_75_132 rfl rfl ?_
          refine xi_goto (pc' := 137) kc_75_133 rfl ?_
          refine xcps2 (α := Int32) ((x2 : Int32) + 1) (fun v21 ev21 => ?_)
          have rv21 := xc_rng v21
          refine xi_iadd (pc' := 138) (v := v21) kc_75_137 rfl ev21 ?_
          refine xi_istore_n (pc' := 139) (lv' := [(2, .int v21), (0, .ref 115), (3, .int x3)]) kc_75_138 rfl rfl (xm_lt ml_75 rfl) ?_
          refine xcps2 (α := Int32) (x3 + 1) (fun v22 ev22 => ?_)
          have zv22 : v22.toInt = (x3.toInt + 1) := by rw [← ev22]; exact (xz_add (X := x3.toInt) (Y := 1) rfl (by decide) (by omega) (by omega)).trans (by omega)
          refine xi_iinc (pc' := 142) (x := x3) (v := v22) (lv' := [(3, .int v22), (2, .int v21), (0, .ref 115)]) kc_75_139 rfl rfl ev22 rfl (xm_lt ml_75 rfl) ?_
          refine xi_goto (pc' := 114) kc_75_142 rfl ?_
          refine xw_lv (b := [(0, .ref 115), (2, .int v21), (3, .int v22)]) (lvS_cons (lvS_cons (lvS_cons (lvS_nil (show ([3, 2, 0] : List Nat).Nodup by decide)) rfl) rfl) rfl) ?_
          exact i1 v21 v22 h (by omega) K (by omega)
    · intro x2 x3 h b3 K hm
      have rx2 := xc_rng x2
      refine xi_iload_n (pc' := 155) (x := x3) kc_75_154 rfl rfl ?_
      refine xi_aload_n (pc' := 156) (x := 115) kc_75_155 rfl rfl ?_
      refine xp_115 K.1 (fun u1 u2 u3 u4 u5 u6 u7 u8 u9 u10 u11 u12 u13 bu1 bu2 bu3 bu4 bu5 bu6 bu7 bu8 bu9 bu10 bu11 bu12 bu13 A14 => ?_)
      refine xi_getfield (pc' := 159) (v := .int u10) kc_75_156 rfl rfl rfl A14 rfl ?_
      by_cases c15 : u10.toInt ≤ x3.toInt
      · refine xi_cmt (pc' := 185) kc_75_159 rfl (xc_ge_t (X := x3.toInt) (Y := u10.toInt) rfl rfl (by omega)) ?_
        refine xi_iload_n (pc' := 186) (x := x2) kc_75_185 rfl rfl ?_
        refine xi_ireturn kc_75_186 mr_75 rfl ?_
        exact kk x2 h K
      · refine xi_cmf (pc' := 162) kc_75_159 rfl (xc_ge_f (X := x3.toInt) (Y := u10.toInt) rfl rfl (by omega)) ?_
        refine xi_iload_n (pc' := 163) (x := x2) kc_75_162 rfl rfl ?_
        refine xi_aload_n (pc' := 164) (x := 115) kc_75_163 rfl rfl ?_
        refine xi_getfield (pc' := 167) (v := .ref 154) kc_75_164 rfl rfl rfl A14 rfl ?_
        refine xi_iload_n (pc' := 168) (x := x3) kc_75_167 rfl rfl ?_
        refine xcps4 (xk_arr K.1 xD_154) (fun y16 A16 hy16 ry16 => ?_)
        refine xcps4 (xj_get hy16 ry16 (i := x3) (by omega) (by omega)) (fun v17 ev17 bv17 dv17 => ?_)
        refine xi_iaload (pc' := 169) (v := v17) kc_75_168 rfl A16 (by decide) rfl (xi_in (by omega) (by rw [hy16]; omega)) ev17 ?_
        by_cases c18 : v17.toInt ≤ 0
        · refine xi_ift (pc' := 176) kc_75_169 rfl (xc_le_t (X := v17.toInt) (Y := 0) rfl (by decide) (by omega)) ?_
          refine xi_iconst (pc' := 177) (v := 0) kc_75_176 rfl rfl ?_
          refine xcps2 (α := Int32) (x2 + 0) (fun v19 ev19 => ?_)
          have zv19 : v19.toInt = x2.toInt := by rw [← ev19]; exact (xz_add (X := x2.toInt) (Y := 0) rfl (by decide) (by omega) (by omega)).trans (by omega)
          refine xi_iadd (pc' := 178) (v := v19) kc_75_177 rfl ev19 ?_
          refine xi_istore_n (pc' := 179) (lv' := [(2, .int v19), (0, .ref 115), (3, .int x3)]) kc_75_178 rfl rfl (xm_lt ml_75 rfl) ?_
          refine xcps2 (α := Int32) (x3 + 1) (fun v20 ev20 => ?_)
          have zv20 : v20.toInt = (x3.toInt + 1) := by rw [← ev20]; exact (xz_add (X := x3.toInt) (Y := 1) rfl (by decide) (by omega) (by omega)).trans (by omega)
          refine xi_iinc (pc' := 182) (x := x3) (v := v20) (lv' := [(3, .int v20), (2, .int v19), (0, .ref 115)]) kc_75_179 rfl rfl ev20 rfl (xm_lt ml_75 rfl) ?_
          refine xi_goto (pc' := 154) kc_75_182 rfl ?_
          refine xw_lv (b := [(0, .ref 115), (2, .int v19), (3, .int v20)]) (lvS_cons (lvS_cons (lvS_cons (lvS_nil (show ([3, 2, 0] : List Nat).Nodup by decide)) rfl) rfl) rfl) ?_
          exact i2 v19 v20 h (by omega) K (by omega)
        · refine xi_iff (pc' := 172) kc_75_169 rfl (xc_le_f (X := v17.toInt) (Y := 0) rfl (by decide) (by omega)) ?_
          refine xi_iconst (pc' := 173) (v := 1) kc_75_172 rfl rfl ?_
          refine xi_goto (pc' := 177) kc_75_173 rfl ?_
          refine xcps2 (α := Int32) ((x2 : Int32) + 1) (fun v21 ev21 => ?_)
          have rv21 := xc_rng v21
          refine xi_iadd (pc' := 178) (v := v21) kc_75_177 rfl ev21 ?_
          refine xi_istore_n (pc' := 179) (lv' := [(2, .int v21), (0, .ref 115), (3, .int x3)]) kc_75_178 rfl rfl (xm_lt ml_75 rfl) ?_
          refine xcps2 (α := Int32) (x3 + 1) (fun v22 ev22 => ?_)
          have zv22 : v22.toInt = (x3.toInt + 1) := by rw [← ev22]; exact (xz_add (X := x3.toInt) (Y := 1) rfl (by decide) (by omega) (by omega)).trans (by omega)
          refine xi_iinc (pc' := 182) (x := x3) (v := v22) (lv' := [(3, .int v22), (2, .int v21), (0, .ref 115)]) kc_75_179 rfl rfl ev22 rfl (xm_lt ml_75 rfl) ?_
          refine xi_goto (pc' := 154) kc_75_182 rfl ?_
          refine xw_lv (b := [(0, .ref 115), (2, .int v21), (3, .int v22)]) (lvS_cons (lvS_cons (lvS_cons (lvS_nil (show ([3, 2, 0] : List Nat).Nodup by decide)) rfl) rfl) rfl) ?_
          exact i2 v21 v22 h (by omega) K (by omega)
set_option maxHeartbeats 4000000 in
theorem mt_75_0 {J : xe_J} {ov : List (List Int32)} (hJ : ∀ d mj as h, mj ≠ xe_loff → J d mj as h = none) (hov1 : ov[1]? = some [10, 0, 0, 0, 0, 0]) (hov2 : ov[2]? = some [99, 30, 50, 50, 1, 99999]) {d : Nat} {Q : Option Value → xe_H → Prop} {h : xe_H} {x1 : Int32} (T : xt h) (kk : (∀ (r : Int32) (h' : xe_H), xk [(0, 9), (115, 1), (83, 0), (29, 0), (31, 0), (33, 0), (35, 0), (37, 0), (39, 0), (41, 0), (43, 0), (45, 0), (47, 0), (49, 0), (51, 0), (125, 0), (66, 8), (115, 18), (71, 0), (132, 0)] h h' → Q (some (.int r)) h')) : xw J ov (d + 2) 75 (0, [(0, .ref 115), (1, .int x1)], [], h) Q := by
  have K : xk [(0, 9), (115, 1), (83, 0), (29, 0), (31, 0), (33, 0), (35, 0), (37, 0), (39, 0), (41, 0), (43, 0), (45, 0), (47, 0), (49, 0), (51, 0), (125, 0), (66, 8), (115, 18), (71, 0), (132, 0)] h h := xk_re T
  have rx1 := xc_rng x1
  refine xi_aload_n (pc' := 1) (x := 115) kc_75_0 rfl rfl ?_
  refine xi_iconst (pc' := 2) (v := 0) kc_75_1 rfl rfl ?_
  refine xp_115 K.1 (fun u1 u2 u3 u4 u5 u6 u7 u8 u9 u10 u11 u12 u13 bu1 bu2 bu3 bu4 bu5 bu6 bu7 bu8 bu9 bu10 bu11 bu12 bu13 A14 => ?_)
  refine xi_putfield (pc' := 5) (fs' := [.int 0, .int u2, .ref 116, .ref 117, .ref 118, .ref 119, .ref 120, .ref 121, .ref 122, .ref 123, .ref 124, .ref 125, .ref 126, .ref 127, .ref 128, .ref 129, .int u3, .ref 130, .int u4, .ref 131, .ref 132, .ref 133, .ref 134, .int u5, .ref 135, .ref 136, .ref 137, .ref 138, .ref 139, .ref 140, .ref 141, .ref 142, .int u6, .int u7, .int u8, .ref 143, .ref 144, .ref 145, .ref 146, .ref 147, .ref 148, .int u9, .ref 149, .ref 150, .ref 151, .int u10, .ref 152, .ref 153, .ref 154, .ref 155, .ref 156, .ref 157, .ref 158, .ref 159, .int u11, .ref 160, .int u12, .ref 161, .ref 162, .ref 163, .ref 164, .int u13, .ref 165, .ref 166]) kc_75_2 rfl rfl rfl A14 rfl rfl rfl (Nat.le_of_ble_eq_true rfl) rfl (fun hh16 eh15 => ?_)
  have K17 := xk_pf (k := 0) (v := 0) K (xk_wf rfl) xD_115 A14 rfl (by first | omega | decide) (by first | omega | decide) eh15 rfl
  refine xi_iconst (pc' := 6) (v := 0) kc_75_5 rfl rfl ?_
  refine xi_istore_n (pc' := 7) (lv' := [(2, .int 0), (0, .ref 115), (1, .int x1)]) kc_75_6 rfl rfl (xm_lt ml_75 rfl) ?_
  refine xi_iload_n (pc' := 8) (x := x1) kc_75_7 rfl rfl ?_
  by_cases c18 : x1.toInt = 0
  · refine xi_tsi (pc' := 64) (z := 0) kc_75_8 (by omega) rfl (by decide) ?_
    refine xi_aload_n (pc' := 65) (x := 115) kc_75_64 rfl rfl ?_
    refine xi_getfield (pc' := 68) (v := .int u2) kc_75_65 rfl rfl rfl eh15.1 rfl ?_
    refine xi_ireturn kc_75_68 mr_75 rfl ?_
    exact kk u2 hh16 K17
  by_cases c19 : x1.toInt = 1
  · refine xi_tsi (pc' := 69) (z := 1) kc_75_8 (by omega) rfl (by decide) ?_
    refine xi_iconst (pc' := 70) (v := 0) kc_75_69 rfl rfl ?_
    refine xi_istore_n (pc' := 71) (lv' := [(3, .int 0), (2, .int 0), (0, .ref 115), (1, .int x1)]) kc_75_70 rfl rfl (xm_lt ml_75 rfl) ?_
    have zc0 : (0 : Int32).toInt = 0 := by decide
    refine xw_lv (b := [(0, .ref 115), (2, .int 0), (3, .int 0)]) (lvS_cons (lvS_cons (lvS_cons (lvS_nil (show ([3, 2, 0, 1] : List Nat).Nodup by decide)) rfl) rfl) rfl) ?_
    exact (lp_75_0 hJ hov1 hov2 (d := d) (hb := hh16) (fun r9 h9 K9 => kk r9 h9 (xk_tr K17 K9 rfl)) 33).1 0 0 hh16 (by omega) (xk_re K17.1) (by omega)
  by_cases c20 : x1.toInt = 2
  · refine xi_tsi (pc' := 102) (z := 2) kc_75_8 (by omega) rfl (by decide) ?_
    refine xi_aload_n (pc' := 103) (x := 115) kc_75_102 rfl rfl ?_
    refine xi_getfield (pc' := 106) (v := .int u4) kc_75_103 rfl rfl rfl eh15.1 rfl ?_
    refine xi_ireturn kc_75_106 mr_75 rfl ?_
    exact kk u4 hh16 K17
  by_cases c21 : x1.toInt = 3
  · refine xi_tsi (pc' := 107) (z := 3) kc_75_8 (by omega) rfl (by decide) ?_
    refine xi_aload_n (pc' := 108) (x := 115) kc_75_107 rfl rfl ?_
    refine xi_getfield (pc' := 111) (v := .int u5) kc_75_108 rfl rfl rfl eh15.1 rfl ?_
    refine xi_ireturn kc_75_111 mr_75 rfl ?_
    exact kk u5 hh16 K17
  by_cases c22 : x1.toInt = 4
  · refine xi_tsi (pc' := 112) (z := 4) kc_75_8 (by omega) rfl (by decide) ?_
    refine xi_iconst (pc' := 113) (v := 0) kc_75_112 rfl rfl ?_
    refine xi_istore_n (pc' := 114) (lv' := [(3, .int 0), (2, .int 0), (0, .ref 115), (1, .int x1)]) kc_75_113 rfl rfl (xm_lt ml_75 rfl) ?_
    have zc0 : (0 : Int32).toInt = 0 := by decide
    refine xw_lv (b := [(0, .ref 115), (2, .int 0), (3, .int 0)]) (lvS_cons (lvS_cons (lvS_cons (lvS_nil (show ([3, 2, 0, 1] : List Nat).Nodup by decide)) rfl) rfl) rfl) ?_
    exact (lp_75_0 hJ hov1 hov2 (d := d) (hb := hh16) (fun r9 h9 K9 => kk r9 h9 (xk_tr K17 K9 rfl)) 33).2.1 0 0 hh16 (by omega) (xk_re K17.1) (by omega)
  by_cases c23 : x1.toInt = 5
  · refine xi_tsi (pc' := 147) (z := 5) kc_75_8 (by omega) rfl (by decide) ?_
    refine xi_aload_n (pc' := 148) (x := 115) kc_75_147 rfl rfl ?_
    refine xi_getfield (pc' := 151) (v := .int u10) kc_75_148 rfl rfl rfl eh15.1 rfl ?_
    refine xi_ireturn kc_75_151 mr_75 rfl ?_
    exact kk u10 hh16 K17
  by_cases c24 : x1.toInt = 6
  · refine xi_tsi (pc' := 152) (z := 6) kc_75_8 (by omega) rfl (by decide) ?_
    refine xi_iconst (pc' := 153) (v := 0) kc_75_152 rfl rfl ?_
    refine xi_istore_n (pc' := 154) (lv' := [(3, .int 0), (2, .int 0), (0, .ref 115), (1, .int x1)]) kc_75_153 rfl rfl (xm_lt ml_75 rfl) ?_
    have zc0 : (0 : Int32).toInt = 0 := by decide
    refine xw_lv (b := [(0, .ref 115), (2, .int 0), (3, .int 0)]) (lvS_cons (lvS_cons (lvS_cons (lvS_nil (show ([3, 2, 0, 1] : List Nat).Nodup by decide)) rfl) rfl) rfl) ?_
    exact (lp_75_0 hJ hov1 hov2 (d := d) (hb := hh16) (fun r9 h9 K9 => kk r9 h9 (xk_tr K17 K9 rfl)) 33).2.2 0 0 hh16 (by omega) (xk_re K17.1) (by omega)
  by_cases c25 : x1.toInt = 7
  · refine xi_tsi (pc' := 187) (z := 7) kc_75_8 (by omega) rfl (by decide) ?_
    refine xi_aload_n (pc' := 188) (x := 115) kc_75_187 rfl rfl ?_
    refine xi_getfield (pc' := 191) (v := .int u8) kc_75_188 rfl rfl rfl eh15.1 rfl ?_
    refine xi_ireturn kc_75_191 mr_75 rfl ?_
    exact kk u8 hh16 K17
  by_cases c26 : x1.toInt = 8
  · refine xi_tsi (pc' := 192) (z := 8) kc_75_8 (by omega) rfl (by decide) ?_
    refine xi_aload_n (pc' := 193) (x := 115) kc_75_192 rfl rfl ?_
    refine xi_getfield (pc' := 196) (v := .int u12) kc_75_193 rfl rfl rfl eh15.1 rfl ?_
    refine xi_ireturn kc_75_196 mr_75 rfl ?_
    exact kk u12 hh16 K17
  by_cases c27 : x1.toInt = 9
  · refine xi_tsi (pc' := 197) (z := 9) kc_75_8 (by omega) rfl (by decide) ?_
    refine xi_aload_n (pc' := 198) (x := 115) kc_75_197 rfl rfl ?_
    refine xi_virtual (mj := 69) (as := []) (st1 := []) (lv0 := [(0, .ref 115)]) kc_75_198 rfl rfl rfl rfl rfl eh15.1 (Nat.le_of_ble_eq_true rfl) (hJ _ _ _ _ (by decide)) (xm_le ml_69 rfl) rfl ?_
    refine mt_69_0 hJ hov1 hov2 (d := d)  K17.1 (fun hh29 K30 => ?_)
    have K31 := xk_tr K17 K30 rfl
    refine xp_115 K31.1 (fun u32 u33 u34 u35 u36 u37 u38 u39 u40 u41 u42 u43 u44 bu32 bu33 bu34 bu35 bu36 bu37 bu38 bu39 bu40 bu41 bu42 bu43 bu44 A45 => ?_)
    have e46 : u2 = u33 := xk_eqi (q := 1) K30 rfl eh15.1 A45 rfl rfl
    subst e46
    have e47 : u4 = u35 := xk_eqi (q := 18) K30 rfl eh15.1 A45 rfl rfl
    subst e47
    show xw J ov (d + 2) 75 (201, [(2, .int 0), (0, .ref 115), (1, .int x1)], [], hh29) _
    refine xi_aload_n (pc' := 202) (x := 115) kc_75_201 rfl rfl ?_
    refine xi_getfield (pc' := 205) (v := .int u42) kc_75_202 rfl rfl rfl A45 rfl ?_
    refine xi_ireturn kc_75_205 mr_75 rfl ?_
    exact kk u42 hh29 K31
  refine xi_tsd (pc' := 206) kc_75_8 rfl (by omega) ?_
  refine xi_iload_n (pc' := 207) (x := x1) kc_75_206 rfl rfl ?_
  refine xi_bipush (pc' := 209) (v := 11) kc_75_207 rfl rfl ?_
  refine xi_bipush (pc' := 211) (v := 16) kc_75_209 rfl rfl ?_
  refine xi_static (mj := 11) (as := [.int x1, .int 11, .int 16]) (st1 := []) (lv0 := [(0, .int x1), (1, .int 11), (2, .int 16)]) kc_75_211 rfl rfl (Nat.le_of_ble_eq_true rfl) rfl rfl (Nat.le_of_ble_eq_true rfl) (hJ _ _ _ _ (by decide)) (xm_le ml_11 rfl) rfl ?_
  refine xi_iload_n (pc' := 1) (x := x1) kc_11_0 rfl rfl ?_
  refine xi_iload_n (pc' := 2) (x := 11) kc_11_1 rfl rfl ?_
  by_cases c48 : x1.toInt < 11
  · refine xi_cmt (pc' := 14) kc_11_2 rfl (xc_lt_t (X := x1.toInt) (Y := 11) rfl (by decide) (by omega)) ?_
    refine xi_iconst (pc' := 15) (v := 0) kc_11_14 rfl rfl ?_
    refine xi_ireturn kc_11_15 mr_11 rfl ?_
    show xw J ov (d + 2) 75 (214, [(2, .int 0), (0, .ref 115), (1, .int x1)], [.int 0], hh16) _
    refine xi_ift (pc' := 229) kc_75_214 rfl rfl ?_
    refine xi_bipush (pc' := 231) (v := (-9)) kc_75_229 rfl rfl ?_
    refine xi_ireturn kc_75_231 mr_75 rfl ?_
    have zcm9 : ((-9) : Int32).toInt = (-9) := by decide
    exact kk (-9) hh16 K17
  · refine xi_cmf (pc' := 5) kc_11_2 rfl (xc_lt_f (X := x1.toInt) (Y := 11) rfl (by decide) (by omega)) ?_
    refine xi_iload_n (pc' := 6) (x := x1) kc_11_5 rfl rfl ?_
    refine xi_iload_n (pc' := 7) (x := 16) kc_11_6 rfl rfl ?_
    by_cases c49 : 16 < x1.toInt
    · refine xi_cmt (pc' := 14) kc_11_7 rfl (xc_gt_t (X := x1.toInt) (Y := 16) rfl (by decide) (by omega)) ?_
      refine xi_iconst (pc' := 15) (v := 0) kc_11_14 rfl rfl ?_
      refine xi_ireturn kc_11_15 mr_11 rfl ?_
      show xw J ov (d + 2) 75 (214, [(2, .int 0), (0, .ref 115), (1, .int x1)], [.int 0], hh16) _
      refine xi_ift (pc' := 229) kc_75_214 rfl rfl ?_
      refine xi_bipush (pc' := 231) (v := (-9)) kc_75_229 rfl rfl ?_
      refine xi_ireturn kc_75_231 mr_75 rfl ?_
      have zcm9 : ((-9) : Int32).toInt = (-9) := by decide
      exact kk (-9) hh16 K17
    · refine xi_cmf (pc' := 10) kc_11_7 rfl (xc_gt_f (X := x1.toInt) (Y := 16) rfl (by decide) (by omega)) ?_
      refine xi_iconst (pc' := 11) (v := 1) kc_11_10 rfl rfl ?_
      refine xi_goto (pc' := 15) kc_11_11 rfl ?_
      refine xi_ireturn kc_11_15 mr_11 rfl ?_
      show xw J ov (d + 2) 75 (214, [(2, .int 0), (0, .ref 115), (1, .int x1)], [.int 1], hh16) _
      refine xi_iff (pc' := 217) kc_75_214 rfl rfl ?_
      refine xi_aload_n (pc' := 218) (x := 115) kc_75_217 rfl rfl ?_
      refine xi_getfield (pc' := 221) (v := .ref 140) kc_75_218 rfl rfl rfl eh15.1 rfl ?_
      refine xi_iload_n (pc' := 222) (x := x1) kc_75_221 rfl rfl ?_
      refine xi_bipush (pc' := 224) (v := 10) kc_75_222 rfl rfl ?_
      refine xcps2 (α := Int32) (x1 - 10) (fun v50 ev50 => ?_)
      have zv50 : v50.toInt = (x1.toInt + (-10)) := by rw [← ev50]; exact (xz_sub (X := x1.toInt) (Y := 10) rfl (by decide) (by omega) (by omega)).trans (by omega)
      refine xi_isub (pc' := 225) (v := v50) kc_75_224 rfl ev50 ?_
      refine xcps4 (xk_arr K17.1 xD_140) (fun y51 A51 hy51 ry51 => ?_)
      refine xcps4 (xj_get hy51 ry51 (i := v50) (by rw [zv50]; omega) (by rw [zv50]; omega)) (fun v52 ev52 bv52 dv52 => ?_)
      refine xi_iaload (pc' := 226) (v := v52) kc_75_225 rfl A51 (by decide) rfl (xi_in (by rw [zv50]; omega) (by rw [hy51]; rw [zv50]; omega)) ev52 ?_
      refine xi_goto (pc' := 231) kc_75_226 rfl ?_
      refine xi_ireturn kc_75_231 mr_75 rfl ?_
      exact kk v52 hh16 K17
set_option maxHeartbeats 4000000 in
theorem mt_88_0 {J : xe_J} {ov : List (List Int32)} (hJ : ∀ d mj as h, mj ≠ xe_loff → J d mj as h = none) (hov1 : ov[1]? = some [10, 0, 0, 0, 0, 0]) (hov2 : ov[2]? = some [99, 30, 50, 50, 1, 99999]) {d : Nat} {Q : Option Value → xe_H → Prop} {h : xe_H} {x1 : Int32} {x2 : Int32} {x3 : Int32} (T : xt h) (kk : (∀ (r : Int32) (h' : xe_H), xk [(0, 9), (115, 1), (83, 0), (29, 0), (31, 0), (33, 0), (35, 0), (37, 0), (39, 0), (41, 0), (43, 0), (45, 0), (47, 0), (49, 0), (51, 0), (125, 0), (66, 8), (115, 18), (71, 0), (132, 0)] h h' → Q (some (.int r)) h')) : xw J ov (d + 2) 88 (0, [(0, .ref 0), (1, .int x1), (2, .int x2), (3, .int x3)], [], h) Q := by
  have K : xk [(0, 9), (115, 1), (83, 0), (29, 0), (31, 0), (33, 0), (35, 0), (37, 0), (39, 0), (41, 0), (43, 0), (45, 0), (47, 0), (49, 0), (51, 0), (125, 0), (66, 8), (115, 18), (71, 0), (132, 0)] h h := xk_re T
  have rx1 := xc_rng x1
  have rx2 := xc_rng x2
  have rx3 := xc_rng x3
  refine xi_iload_n (pc' := 1) (x := x1) kc_88_0 rfl rfl ?_
  refine xi_static (mj := 89) (as := [.int x1]) (st1 := []) (lv0 := [(0, .int x1)]) kc_88_1 rfl rfl (Nat.le_of_ble_eq_true rfl) rfl rfl (Nat.le_of_ble_eq_true rfl) (hJ _ _ _ _ (by decide)) (xm_le ml_89 rfl) rfl ?_
  refine xi_iload_n (pc' := 1) (x := x1) kc_89_0 rfl rfl ?_
  by_cases c1 : x1.toInt < 0
  · refine xi_ift (pc' := 14) kc_89_1 rfl (xc_lt_t (X := x1.toInt) (Y := 0) rfl (by decide) (by omega)) ?_
    refine xi_iconst (pc' := 15) (v := 0) kc_89_14 rfl rfl ?_
    refine xi_ireturn kc_89_15 mr_89 rfl ?_
    show xw J ov (d + 2) 88 (4, [(0, .ref 0), (1, .int x1), (2, .int x2), (3, .int x3)], [.int 0], h) _
    refine xi_iff (pc' := 7) kc_88_4 rfl rfl ?_
    refine xi_aload_n (pc' := 8) (x := 0) kc_88_7 rfl rfl ?_
    refine xi_iconst (pc' := 9) (v := (-1)) kc_88_8 rfl rfl ?_
    refine xp_0 K.1 (fun u2 u3 bu2 bu3 A4 => ?_)
    refine xi_virtual (mj := 90) (as := [.int (-1)]) (st1 := []) (lv0 := [(0, .ref 0), (1, .int (-1))]) kc_88_9 rfl rfl rfl rfl rfl A4 (Nat.le_of_ble_eq_true rfl) (hJ _ _ _ _ (by decide)) (xm_le ml_90 rfl) rfl ?_
    refine xi_iload_n (pc' := 1) (x := (-1)) kc_90_0 rfl rfl ?_
    refine xi_ineg (pc' := 2) (v := 1) kc_90_1 rfl rfl ?_
    refine xi_istore_n (pc' := 3) (lv' := [(2, .int 1), (0, .ref 0), (1, .int (-1))]) kc_90_2 rfl rfl (xm_lt ml_90 rfl) ?_
    refine xi_iload_n (pc' := 4) (x := 1) kc_90_3 rfl rfl ?_
    refine xi_iff (pc' := 7) kc_90_4 rfl rfl ?_
    refine xi_iload_n (pc' := 8) (x := 1) kc_90_7 rfl rfl ?_
    refine xi_aload_n (pc' := 9) (x := 0) kc_90_8 rfl rfl ?_
    refine xi_getfield (pc' := 12) (v := .ref 94) kc_90_9 rfl rfl rfl A4 rfl ?_
    refine xcps4 (xk_arr K.1 xD_94) (fun y5 A5 hy5 ry5 => ?_)
    refine xi_arraylength (pc' := 13) (n := 7) (v := 7) kc_90_12 rfl (xl_lenI (by decide) (by decide) A5 hy5) rfl ?_
    refine xi_cmf (pc' := 16) kc_90_13 rfl rfl ?_
    refine xi_aload_n (pc' := 17) (x := 0) kc_90_16 rfl rfl ?_
    refine xi_getfield (pc' := 20) (v := .ref 94) kc_90_17 rfl rfl rfl A4 rfl ?_
    refine xi_iload_n (pc' := 21) (x := 1) kc_90_20 rfl rfl ?_
    refine xi_dup2 (pc' := 22) kc_90_21 rfl ⟨rfl, rfl⟩ ?_
    refine xcps4 (xj_get hy5 ry5 (i := 1) (by decide) (by decide)) (fun v6 ev6 bv6 dv6 => ?_)
    refine xi_iaload (pc' := 23) (v := v6) kc_90_22 rfl A5 (by decide) rfl (xi_in (by decide) (by rw [hy5]; decide)) ev6 ?_
    refine xi_iconst (pc' := 24) (v := 1) kc_90_23 rfl rfl ?_
    refine xcps2 (α := Int32) ((v6 : Int32) + 1) (fun v7 ev7 => ?_)
    have rv7 := xc_rng v7
    refine xi_iadd (pc' := 25) (v := v7) kc_90_24 rfl ev7 ?_
    refine xcps4 (xj_set (v := v7) hy5 ry5 1 (by first | omega | decide) (by first | omega | decide)) (fun y8 s8 hy8 ry8 => ?_)
    refine xi_iastore (pc' := 26) (x' := y8) kc_90_25 rfl A5 rfl (xi_in (by decide) (by rw [hy5]; decide)) s8 (fun hh8 eh8 => ?_)
    have K9 := xk_pa K (xk_wa rfl) xD_94 hy8 ry8 eh8
    refine xi_iload_n (pc' := 27) (x := (-1)) kc_90_26 rfl rfl ?_
    refine xi_ireturn kc_90_27 mr_90 rfl ?_
    show xw J ov (d + 2) 88 (12, [(0, .ref 0), (1, .int x1), (2, .int x2), (3, .int x3)], [.int (-1)], hh8) _
    refine xi_ireturn kc_88_12 mr_88 rfl ?_
    have zcm1 : ((-1) : Int32).toInt = (-1) := by decide
    exact kk (-1) hh8 K9
  · refine xi_iff (pc' := 4) kc_89_1 rfl (xc_lt_f (X := x1.toInt) (Y := 0) rfl (by decide) (by omega)) ?_
    refine xi_iload_n (pc' := 5) (x := x1) kc_89_4 rfl rfl ?_
    refine xi_bipush (pc' := 7) (v := 6) kc_89_5 rfl rfl ?_
    by_cases c10 : 6 ≤ x1.toInt
    · refine xi_cmt (pc' := 14) kc_89_7 rfl (xc_ge_t (X := x1.toInt) (Y := 6) rfl (by decide) (by omega)) ?_
      refine xi_iconst (pc' := 15) (v := 0) kc_89_14 rfl rfl ?_
      refine xi_ireturn kc_89_15 mr_89 rfl ?_
      show xw J ov (d + 2) 88 (4, [(0, .ref 0), (1, .int x1), (2, .int x2), (3, .int x3)], [.int 0], h) _
      refine xi_iff (pc' := 7) kc_88_4 rfl rfl ?_
      refine xi_aload_n (pc' := 8) (x := 0) kc_88_7 rfl rfl ?_
      refine xi_iconst (pc' := 9) (v := (-1)) kc_88_8 rfl rfl ?_
      refine xp_0 K.1 (fun u11 u12 bu11 bu12 A13 => ?_)
      refine xi_virtual (mj := 90) (as := [.int (-1)]) (st1 := []) (lv0 := [(0, .ref 0), (1, .int (-1))]) kc_88_9 rfl rfl rfl rfl rfl A13 (Nat.le_of_ble_eq_true rfl) (hJ _ _ _ _ (by decide)) (xm_le ml_90 rfl) rfl ?_
      refine xi_iload_n (pc' := 1) (x := (-1)) kc_90_0 rfl rfl ?_
      refine xi_ineg (pc' := 2) (v := 1) kc_90_1 rfl rfl ?_
      refine xi_istore_n (pc' := 3) (lv' := [(2, .int 1), (0, .ref 0), (1, .int (-1))]) kc_90_2 rfl rfl (xm_lt ml_90 rfl) ?_
      refine xi_iload_n (pc' := 4) (x := 1) kc_90_3 rfl rfl ?_
      refine xi_iff (pc' := 7) kc_90_4 rfl rfl ?_
      refine xi_iload_n (pc' := 8) (x := 1) kc_90_7 rfl rfl ?_
      refine xi_aload_n (pc' := 9) (x := 0) kc_90_8 rfl rfl ?_
      refine xi_getfield (pc' := 12) (v := .ref 94) kc_90_9 rfl rfl rfl A13 rfl ?_
      refine xcps4 (xk_arr K.1 xD_94) (fun y14 A14 hy14 ry14 => ?_)
      refine xi_arraylength (pc' := 13) (n := 7) (v := 7) kc_90_12 rfl (xl_lenI (by decide) (by decide) A14 hy14) rfl ?_
      refine xi_cmf (pc' := 16) kc_90_13 rfl rfl ?_
      refine xi_aload_n (pc' := 17) (x := 0) kc_90_16 rfl rfl ?_
      refine xi_getfield (pc' := 20) (v := .ref 94) kc_90_17 rfl rfl rfl A13 rfl ?_
      refine xi_iload_n (pc' := 21) (x := 1) kc_90_20 rfl rfl ?_
      refine xi_dup2 (pc' := 22) kc_90_21 rfl ⟨rfl, rfl⟩ ?_
      refine xcps4 (xj_get hy14 ry14 (i := 1) (by decide) (by decide)) (fun v15 ev15 bv15 dv15 => ?_)
      refine xi_iaload (pc' := 23) (v := v15) kc_90_22 rfl A14 (by decide) rfl (xi_in (by decide) (by rw [hy14]; decide)) ev15 ?_
      refine xi_iconst (pc' := 24) (v := 1) kc_90_23 rfl rfl ?_
      refine xcps2 (α := Int32) ((v15 : Int32) + 1) (fun v16 ev16 => ?_)
      have rv16 := xc_rng v16
      refine xi_iadd (pc' := 25) (v := v16) kc_90_24 rfl ev16 ?_
      refine xcps4 (xj_set (v := v16) hy14 ry14 1 (by first | omega | decide) (by first | omega | decide)) (fun y17 s17 hy17 ry17 => ?_)
      refine xi_iastore (pc' := 26) (x' := y17) kc_90_25 rfl A14 rfl (xi_in (by decide) (by rw [hy14]; decide)) s17 (fun hh17 eh17 => ?_)
      have K18 := xk_pa K (xk_wa rfl) xD_94 hy17 ry17 eh17
      refine xi_iload_n (pc' := 27) (x := (-1)) kc_90_26 rfl rfl ?_
      refine xi_ireturn kc_90_27 mr_90 rfl ?_
      show xw J ov (d + 2) 88 (12, [(0, .ref 0), (1, .int x1), (2, .int x2), (3, .int x3)], [.int (-1)], hh17) _
      refine xi_ireturn kc_88_12 mr_88 rfl ?_
      have zcm1 : ((-1) : Int32).toInt = (-1) := by decide
      exact kk (-1) hh17 K18
    · refine xi_cmf (pc' := 10) kc_89_7 rfl (xc_ge_f (X := x1.toInt) (Y := 6) rfl (by decide) (by omega)) ?_
      refine xi_iconst (pc' := 11) (v := 1) kc_89_10 rfl rfl ?_
      refine xi_goto (pc' := 15) kc_89_11 rfl ?_
      refine xi_ireturn kc_89_15 mr_89 rfl ?_
      show xw J ov (d + 2) 88 (4, [(0, .ref 0), (1, .int x1), (2, .int x2), (3, .int x3)], [.int 1], h) _
      refine xi_ift (pc' := 13) kc_88_4 rfl rfl ?_
      refine xi_iload_n (pc' := 14) (x := x2) kc_88_13 rfl rfl ?_
      by_cases c19 : x2.toInt < 0
      · refine xi_ift (pc' := 22) kc_88_14 rfl (xc_lt_t (X := x2.toInt) (Y := 0) rfl (by decide) (by omega)) ?_
        refine xi_aload_n (pc' := 23) (x := 0) kc_88_22 rfl rfl ?_
        refine xi_bipush (pc' := 25) (v := (-2)) kc_88_23 rfl rfl ?_
        refine xp_0 K.1 (fun u20 u21 bu20 bu21 A22 => ?_)
        refine xi_virtual (mj := 90) (as := [.int (-2)]) (st1 := []) (lv0 := [(0, .ref 0), (1, .int (-2))]) kc_88_25 rfl rfl rfl rfl rfl A22 (Nat.le_of_ble_eq_true rfl) (hJ _ _ _ _ (by decide)) (xm_le ml_90 rfl) rfl ?_
        refine xi_iload_n (pc' := 1) (x := (-2)) kc_90_0 rfl rfl ?_
        refine xi_ineg (pc' := 2) (v := 2) kc_90_1 rfl rfl ?_
        refine xi_istore_n (pc' := 3) (lv' := [(2, .int 2), (0, .ref 0), (1, .int (-2))]) kc_90_2 rfl rfl (xm_lt ml_90 rfl) ?_
        refine xi_iload_n (pc' := 4) (x := 2) kc_90_3 rfl rfl ?_
        refine xi_iff (pc' := 7) kc_90_4 rfl rfl ?_
        refine xi_iload_n (pc' := 8) (x := 2) kc_90_7 rfl rfl ?_
        refine xi_aload_n (pc' := 9) (x := 0) kc_90_8 rfl rfl ?_
        refine xi_getfield (pc' := 12) (v := .ref 94) kc_90_9 rfl rfl rfl A22 rfl ?_
        refine xcps4 (xk_arr K.1 xD_94) (fun y23 A23 hy23 ry23 => ?_)
        refine xi_arraylength (pc' := 13) (n := 7) (v := 7) kc_90_12 rfl (xl_lenI (by decide) (by decide) A23 hy23) rfl ?_
        refine xi_cmf (pc' := 16) kc_90_13 rfl rfl ?_
        refine xi_aload_n (pc' := 17) (x := 0) kc_90_16 rfl rfl ?_
        refine xi_getfield (pc' := 20) (v := .ref 94) kc_90_17 rfl rfl rfl A22 rfl ?_
        refine xi_iload_n (pc' := 21) (x := 2) kc_90_20 rfl rfl ?_
        refine xi_dup2 (pc' := 22) kc_90_21 rfl ⟨rfl, rfl⟩ ?_
        refine xcps4 (xj_get hy23 ry23 (i := 2) (by decide) (by decide)) (fun v24 ev24 bv24 dv24 => ?_)
        refine xi_iaload (pc' := 23) (v := v24) kc_90_22 rfl A23 (by decide) rfl (xi_in (by decide) (by rw [hy23]; decide)) ev24 ?_
        refine xi_iconst (pc' := 24) (v := 1) kc_90_23 rfl rfl ?_
        refine xcps2 (α := Int32) ((v24 : Int32) + 1) (fun v25 ev25 => ?_)
        have rv25 := xc_rng v25
        refine xi_iadd (pc' := 25) (v := v25) kc_90_24 rfl ev25 ?_
        refine xcps4 (xj_set (v := v25) hy23 ry23 2 (by first | omega | decide) (by first | omega | decide)) (fun y26 s26 hy26 ry26 => ?_)
        refine xi_iastore (pc' := 26) (x' := y26) kc_90_25 rfl A23 rfl (xi_in (by decide) (by rw [hy23]; decide)) s26 (fun hh26 eh26 => ?_)
        have K27 := xk_pa K (xk_wa rfl) xD_94 hy26 ry26 eh26
        refine xi_iload_n (pc' := 27) (x := (-2)) kc_90_26 rfl rfl ?_
        refine xi_ireturn kc_90_27 mr_90 rfl ?_
        show xw J ov (d + 2) 88 (28, [(0, .ref 0), (1, .int x1), (2, .int x2), (3, .int x3)], [.int (-2)], hh26) _
        refine xi_ireturn kc_88_28 mr_88 rfl ?_
        have zcm2 : ((-2) : Int32).toInt = (-2) := by decide
        exact kk (-2) hh26 K27
      · refine xi_iff (pc' := 17) kc_88_14 rfl (xc_lt_f (X := x2.toInt) (Y := 0) rfl (by decide) (by omega)) ?_
        refine xi_iload_n (pc' := 18) (x := x2) kc_88_17 rfl rfl ?_
        refine xi_iconst (pc' := 19) (v := 5) kc_88_18 rfl rfl ?_
        by_cases c28 : x2.toInt ≤ 5
        · refine xi_cmt (pc' := 29) kc_88_19 rfl (xc_le_t (X := x2.toInt) (Y := 5) rfl (by decide) (by omega)) ?_
          refine xi_iload_n (pc' := 30) (x := x3) kc_88_29 rfl rfl ?_
          refine xi_getstatic (pc' := 33) (j := 1000001) kc_88_30 rfl rfl ?_
          refine xi_iload_n (pc' := 34) (x := x2) kc_88_33 rfl rfl ?_
          by_cases c29 : x2.toInt = 0
          · have qx2 : x2 = 0 := xc_of (Eq.trans (by omega) (show (0 : Int) = (0 : Int32).toInt by decide))
            subst qx2
            refine xi_ialoadO (pc' := 35) (v := 10) kc_88_34 rfl (by decide) hov1 (xi_in (n := 6) (by decide) (by decide)) rfl ?_
            by_cases c30 : 10 ≤ x3.toInt
            · refine xi_cmt (pc' := 45) kc_88_35 rfl (xc_ge_t (X := x3.toInt) (Y := 10) rfl (by decide) (by omega)) ?_
              refine xi_iload_n (pc' := 46) (x := x3) kc_88_45 rfl rfl ?_
              refine xi_getstatic (pc' := 49) (j := 1000002) kc_88_46 rfl rfl ?_
              refine xi_iload_n (pc' := 50) (x := 0) kc_88_49 rfl rfl ?_
              refine xi_ialoadO (pc' := 51) (v := 99) kc_88_50 rfl (by decide) hov2 (xi_in (n := 6) (by decide) (by decide)) rfl ?_
              by_cases c31 : x3.toInt ≤ 99
              · refine xi_cmt (pc' := 61) kc_88_51 rfl (xc_le_t (X := x3.toInt) (Y := 99) rfl (by decide) (by omega)) ?_
                refine xi_iload_n (pc' := 62) (x := 0) kc_88_61 rfl rfl ?_
                refine xi_iconst (pc' := 63) (v := 5) kc_88_62 rfl rfl ?_
                refine xi_cmt (pc' := 90) kc_88_63 rfl rfl ?_
                refine xi_aload_n (pc' := 91) (x := 0) kc_88_90 rfl rfl ?_
                refine xp_0 K.1 (fun u32 u33 bu32 bu33 A34 => ?_)
                refine xi_getfield (pc' := 94) (v := .ref 66) kc_88_91 rfl rfl rfl A34 rfl ?_
                refine xp_66 K.1 (fun u36 wl35 bu36 A37 => ?_)
                refine xi_virtual (mj := 91) (as := []) (st1 := []) (lv0 := [(0, .ref 66)]) kc_88_94 rfl rfl rfl rfl rfl A37 (Nat.le_of_ble_eq_true rfl) (hJ _ _ _ _ (by decide)) (xm_le ml_91 rfl) rfl ?_
                refine xi_aload_n (pc' := 1) (x := 66) kc_91_0 rfl rfl ?_
                refine xi_lconst (pc' := 2) (v := 0) kc_91_1 rfl rfl ?_
                refine xi_putfield (pc' := 5) (fs' := [.ref 1, .ref 67, .ref 70, .ref 71, .ref 72, .ref 73, .ref 74, .long 0, .int u36]) kc_91_2 rfl rfl rfl A37 rfl rfl rfl (Nat.le_of_ble_eq_true rfl) rfl (fun hh39 eh38 => ?_)
                have K40 := xk_pl (k := 7) (v := 0) K (xk_wf rfl) xD_66 A37 rfl eh38 rfl
                refine xi_return kc_91_5 mr_91 ?_
                show xw J ov (d + 2) 88 (97, [(0, .ref 0), (1, .int x1), (2, .int 0), (3, .int x3)], [], hh39) _
                refine xi_aload_n (pc' := 98) (x := 0) kc_88_97 rfl rfl ?_
                have A41 := ((eh38.2.1 0 (by decide)).trans A34)
                refine xi_getfield (pc' := 101) (v := .ref 1) kc_88_98 rfl rfl rfl A41 rfl ?_
                refine xi_iload_n (pc' := 102) (x := x1) kc_88_101 rfl rfl ?_
                refine xi_iload_n (pc' := 103) (x := 0) kc_88_102 rfl rfl ?_
                refine xi_iload_n (pc' := 104) (x := x3) kc_88_103 rfl rfl ?_
                refine xp_1 K40.1 (fun u42 u43 bu42 bu43 A44 => ?_)
                refine xi_virtual (mj := 92) (as := [.int x1, .int 0, .int x3]) (st1 := []) (lv0 := [(0, .ref 1), (1, .int x1), (2, .int 0), (3, .int x3)]) kc_88_104 rfl rfl rfl rfl rfl A44 (Nat.le_of_ble_eq_true rfl) (hJ _ _ _ _ (by decide)) (xm_le ml_92 rfl) rfl ?_
                refine xi_iload_n (pc' := 1) (x := x1) kc_92_0 rfl rfl ?_
                refine xi_static (mj := 89) (as := [.int x1]) (st1 := []) (lv0 := [(0, .int x1)]) kc_92_1 rfl rfl (Nat.le_of_ble_eq_true rfl) rfl rfl (Nat.le_of_ble_eq_true rfl) (hJ _ _ _ _ (by decide)) (xm_le ml_89 rfl) rfl ?_
                refine xi_iload_n (pc' := 1) (x := x1) kc_89_0 rfl rfl ?_
                refine xi_iff (pc' := 4) kc_89_1 rfl (xc_lt_f (X := x1.toInt) (Y := 0) rfl (by decide) (by omega)) ?_
                refine xi_iload_n (pc' := 5) (x := x1) kc_89_4 rfl rfl ?_
                refine xi_bipush (pc' := 7) (v := 6) kc_89_5 rfl rfl ?_
                refine xi_cmf (pc' := 10) kc_89_7 rfl (xc_ge_f (X := x1.toInt) (Y := 6) rfl (by decide) (by omega)) ?_
                refine xi_iconst (pc' := 11) (v := 1) kc_89_10 rfl rfl ?_
                refine xi_goto (pc' := 15) kc_89_11 rfl ?_
                refine xi_ireturn kc_89_15 mr_89 rfl ?_
                show xw J ov (d + 1) 92 (4, [(0, .ref 1), (1, .int x1), (2, .int 0), (3, .int x3)], [.int 1], hh39) _
                refine xi_iff (pc' := 7) kc_92_4 rfl rfl ?_
                refine xi_aload_n (pc' := 8) (x := 1) kc_92_7 rfl rfl ?_
                refine xi_getfield (pc' := 11) (v := .ref 2) kc_92_8 rfl rfl rfl A44 rfl ?_
                refine xi_iload_n (pc' := 12) (x := x1) kc_92_11 rfl rfl ?_
                have A45 := xk_ex K40.1 xD_2
                obtain ⟨pt46, ept46, mpt46⟩ := xR_2 (i := x1) (by omega) (by omega)
                refine xj_aaload (pc' := 13) (b := pt46) kc_92_12 rfl A45 rfl (xi_in (n := 6) (by omega) (by omega)) ept46 ?_
                refine xi_iload_n (pc' := 14) (x := 0) kc_92_13 rfl rfl ?_
                refine xi_iload_n (pc' := 15) (x := x3) kc_92_14 rfl rfl ?_
                obtain ⟨pt47, pt48, mpt47, mpt48, A49⟩ := xg_room K40.1 mpt46
                refine xi_virtual (mj := 93) (as := [.int 0, .int x3]) (st1 := []) (lv0 := [(0, .ref pt46), (1, .int 0), (2, .int x3)]) kc_92_15 rfl rfl rfl rfl rfl A49 (Nat.le_of_ble_eq_true rfl) (hJ _ _ _ _ (by decide)) (xm_le ml_93 rfl) rfl ?_
                refine xi_iload_n (pc' := 1) (x := 0) kc_93_0 rfl rfl ?_
                refine xi_iff (pc' := 4) kc_93_1 rfl rfl ?_
                refine xi_iload_n (pc' := 5) (x := 0) kc_93_4 rfl rfl ?_
                refine xi_iconst (pc' := 6) (v := 5) kc_93_5 rfl rfl ?_
                refine xi_cmt (pc' := 11) kc_93_6 rfl rfl ?_
                refine xi_aload_n (pc' := 12) (x := pt46) kc_93_11 rfl rfl ?_
                refine xi_getfield (pc' := 15) (v := .ref pt47) kc_93_12 rfl rfl rfl A49 rfl ?_
                refine xi_iload_n (pc' := 16) (x := 0) kc_93_15 rfl rfl ?_
                refine xcps4 (xk_arr K40.1 (xGD_room0 mpt47)) (fun y50 A50 hy50 ry50 => ?_)
                refine xcps4 (xj_get hy50 ry50 (i := 0) (by decide) (by decide)) (fun v51 ev51 bv51 dv51 => ?_)
                refine xi_iaload (pc' := 17) (v := v51) kc_93_16 rfl A50 (xk_lo mpt47 rfl) rfl (xi_in (by decide) (by rw [hy50]; decide)) ev51 ?_
                refine xi_istore_n (pc' := 18) (lv' := [(3, .int v51), (0, .ref pt46), (1, .int 0), (2, .int x3)]) kc_93_17 rfl rfl (xm_lt ml_93 rfl) ?_
                refine xi_aload_n (pc' := 19) (x := pt46) kc_93_18 rfl rfl ?_
                refine xi_getfield (pc' := 22) (v := .ref pt47) kc_93_19 rfl rfl rfl A49 rfl ?_
                refine xi_iload_n (pc' := 23) (x := 0) kc_93_22 rfl rfl ?_
                refine xi_iload_n (pc' := 24) (x := x3) kc_93_23 rfl rfl ?_
                refine xcps4 (xj_set (v := x3) hy50 ry50 0 (by first | omega | decide) (by first | omega | decide)) (fun y52 s52 hy52 ry52 => ?_)
                refine xi_iastore (pc' := 25) (x' := y52) kc_93_24 rfl A50 rfl (xi_in (by decide) (by rw [hy50]; decide)) s52 (fun hh52 eh52 => ?_)
                have K53 := xk_pa K40 (xk_ga mpt47 rfl) (xGD_room0 mpt47) hy52 ry52 eh52
                refine xi_iload_n (pc' := 26) (x := v51) kc_93_25 rfl rfl ?_
                refine xi_ireturn kc_93_26 mr_93 rfl ?_
                show xw J ov (d + 1) 92 (18, [(0, .ref 1), (1, .int x1), (2, .int 0), (3, .int x3)], [.int v51], hh52) _
                refine xi_goto (pc' := 22) kc_92_18 rfl ?_
                refine xi_ireturn kc_92_22 mr_92 rfl ?_
                show xw J ov (d + 2) 88 (107, [(0, .ref 0), (1, .int x1), (2, .int 0), (3, .int x3)], [.int v51], hh52) _
                refine xi_ireturn kc_88_107 mr_88 rfl ?_
                exact kk v51 hh52 K53
              · refine xi_cmf (pc' := 54) kc_88_51 rfl (xc_le_f (X := x3.toInt) (Y := 99) rfl (by decide) (by omega)) ?_
                refine xi_aload_n (pc' := 55) (x := 0) kc_88_54 rfl rfl ?_
                refine xi_bipush (pc' := 57) (v := (-6)) kc_88_55 rfl rfl ?_
                refine xp_0 K.1 (fun u54 u55 bu54 bu55 A56 => ?_)
                refine xi_virtual (mj := 90) (as := [.int (-6)]) (st1 := []) (lv0 := [(0, .ref 0), (1, .int (-6))]) kc_88_57 rfl rfl rfl rfl rfl A56 (Nat.le_of_ble_eq_true rfl) (hJ _ _ _ _ (by decide)) (xm_le ml_90 rfl) rfl ?_
                refine xi_iload_n (pc' := 1) (x := (-6)) kc_90_0 rfl rfl ?_
                refine xi_ineg (pc' := 2) (v := 6) kc_90_1 rfl rfl ?_
                refine xi_istore_n (pc' := 3) (lv' := [(2, .int 6), (0, .ref 0), (1, .int (-6))]) kc_90_2 rfl rfl (xm_lt ml_90 rfl) ?_
                refine xi_iload_n (pc' := 4) (x := 6) kc_90_3 rfl rfl ?_
                refine xi_iff (pc' := 7) kc_90_4 rfl rfl ?_
                refine xi_iload_n (pc' := 8) (x := 6) kc_90_7 rfl rfl ?_
                refine xi_aload_n (pc' := 9) (x := 0) kc_90_8 rfl rfl ?_
                refine xi_getfield (pc' := 12) (v := .ref 94) kc_90_9 rfl rfl rfl A56 rfl ?_
                refine xcps4 (xk_arr K.1 xD_94) (fun y57 A57 hy57 ry57 => ?_)
                refine xi_arraylength (pc' := 13) (n := 7) (v := 7) kc_90_12 rfl (xl_lenI (by decide) (by decide) A57 hy57) rfl ?_
                refine xi_cmf (pc' := 16) kc_90_13 rfl rfl ?_
                refine xi_aload_n (pc' := 17) (x := 0) kc_90_16 rfl rfl ?_
                refine xi_getfield (pc' := 20) (v := .ref 94) kc_90_17 rfl rfl rfl A56 rfl ?_
                refine xi_iload_n (pc' := 21) (x := 6) kc_90_20 rfl rfl ?_
                refine xi_dup2 (pc' := 22) kc_90_21 rfl ⟨rfl, rfl⟩ ?_
                refine xcps4 (xj_get hy57 ry57 (i := 6) (by decide) (by decide)) (fun v58 ev58 bv58 dv58 => ?_)
                refine xi_iaload (pc' := 23) (v := v58) kc_90_22 rfl A57 (by decide) rfl (xi_in (by decide) (by rw [hy57]; decide)) ev58 ?_
                refine xi_iconst (pc' := 24) (v := 1) kc_90_23 rfl rfl ?_
                refine xcps2 (α := Int32) ((v58 : Int32) + 1) (fun v59 ev59 => ?_)
                have rv59 := xc_rng v59
                refine xi_iadd (pc' := 25) (v := v59) kc_90_24 rfl ev59 ?_
                refine xcps4 (xj_set (v := v59) hy57 ry57 6 (by first | omega | decide) (by first | omega | decide)) (fun y60 s60 hy60 ry60 => ?_)
                refine xi_iastore (pc' := 26) (x' := y60) kc_90_25 rfl A57 rfl (xi_in (by decide) (by rw [hy57]; decide)) s60 (fun hh60 eh60 => ?_)
                have K61 := xk_pa K (xk_wa rfl) xD_94 hy60 ry60 eh60
                refine xi_iload_n (pc' := 27) (x := (-6)) kc_90_26 rfl rfl ?_
                refine xi_ireturn kc_90_27 mr_90 rfl ?_
                show xw J ov (d + 2) 88 (60, [(0, .ref 0), (1, .int x1), (2, .int 0), (3, .int x3)], [.int (-6)], hh60) _
                refine xi_ireturn kc_88_60 mr_88 rfl ?_
                have zcm6 : ((-6) : Int32).toInt = (-6) := by decide
                exact kk (-6) hh60 K61
            · refine xi_cmf (pc' := 38) kc_88_35 rfl (xc_ge_f (X := x3.toInt) (Y := 10) rfl (by decide) (by omega)) ?_
              refine xi_aload_n (pc' := 39) (x := 0) kc_88_38 rfl rfl ?_
              refine xi_bipush (pc' := 41) (v := (-4)) kc_88_39 rfl rfl ?_
              refine xp_0 K.1 (fun u62 u63 bu62 bu63 A64 => ?_)
              refine xi_virtual (mj := 90) (as := [.int (-4)]) (st1 := []) (lv0 := [(0, .ref 0), (1, .int (-4))]) kc_88_41 rfl rfl rfl rfl rfl A64 (Nat.le_of_ble_eq_true rfl) (hJ _ _ _ _ (by decide)) (xm_le ml_90 rfl) rfl ?_
              refine xi_iload_n (pc' := 1) (x := (-4)) kc_90_0 rfl rfl ?_
              refine xi_ineg (pc' := 2) (v := 4) kc_90_1 rfl rfl ?_
              refine xi_istore_n (pc' := 3) (lv' := [(2, .int 4), (0, .ref 0), (1, .int (-4))]) kc_90_2 rfl rfl (xm_lt ml_90 rfl) ?_
              refine xi_iload_n (pc' := 4) (x := 4) kc_90_3 rfl rfl ?_
              refine xi_iff (pc' := 7) kc_90_4 rfl rfl ?_
              refine xi_iload_n (pc' := 8) (x := 4) kc_90_7 rfl rfl ?_
              refine xi_aload_n (pc' := 9) (x := 0) kc_90_8 rfl rfl ?_
              refine xi_getfield (pc' := 12) (v := .ref 94) kc_90_9 rfl rfl rfl A64 rfl ?_
              refine xcps4 (xk_arr K.1 xD_94) (fun y65 A65 hy65 ry65 => ?_)
              refine xi_arraylength (pc' := 13) (n := 7) (v := 7) kc_90_12 rfl (xl_lenI (by decide) (by decide) A65 hy65) rfl ?_
              refine xi_cmf (pc' := 16) kc_90_13 rfl rfl ?_
              refine xi_aload_n (pc' := 17) (x := 0) kc_90_16 rfl rfl ?_
              refine xi_getfield (pc' := 20) (v := .ref 94) kc_90_17 rfl rfl rfl A64 rfl ?_
              refine xi_iload_n (pc' := 21) (x := 4) kc_90_20 rfl rfl ?_
              refine xi_dup2 (pc' := 22) kc_90_21 rfl ⟨rfl, rfl⟩ ?_
              refine xcps4 (xj_get hy65 ry65 (i := 4) (by decide) (by decide)) (fun v66 ev66 bv66 dv66 => ?_)
              refine xi_iaload (pc' := 23) (v := v66) kc_90_22 rfl A65 (by decide) rfl (xi_in (by decide) (by rw [hy65]; decide)) ev66 ?_
              refine xi_iconst (pc' := 24) (v := 1) kc_90_23 rfl rfl ?_
              refine xcps2 (α := Int32) ((v66 : Int32) + 1) (fun v67 ev67 => ?_)
              have rv67 := xc_rng v67
              refine xi_iadd (pc' := 25) (v := v67) kc_90_24 rfl ev67 ?_
              refine xcps4 (xj_set (v := v67) hy65 ry65 4 (by first | omega | decide) (by first | omega | decide)) (fun y68 s68 hy68 ry68 => ?_)
              refine xi_iastore (pc' := 26) (x' := y68) kc_90_25 rfl A65 rfl (xi_in (by decide) (by rw [hy65]; decide)) s68 (fun hh68 eh68 => ?_)
              have K69 := xk_pa K (xk_wa rfl) xD_94 hy68 ry68 eh68
              refine xi_iload_n (pc' := 27) (x := (-4)) kc_90_26 rfl rfl ?_
              refine xi_ireturn kc_90_27 mr_90 rfl ?_
              show xw J ov (d + 2) 88 (44, [(0, .ref 0), (1, .int x1), (2, .int 0), (3, .int x3)], [.int (-4)], hh68) _
              refine xi_ireturn kc_88_44 mr_88 rfl ?_
              have zcm4 : ((-4) : Int32).toInt = (-4) := by decide
              exact kk (-4) hh68 K69
          by_cases c70 : x2.toInt = 1
          · have qx2 : x2 = 1 := xc_of (Eq.trans (by omega) (show (1 : Int) = (1 : Int32).toInt by decide))
            subst qx2
            refine xi_ialoadO (pc' := 35) (v := 0) kc_88_34 rfl (by decide) hov1 (xi_in (n := 6) (by decide) (by decide)) rfl ?_
            by_cases c71 : 0 ≤ x3.toInt
            · refine xi_cmt (pc' := 45) kc_88_35 rfl (xc_ge_t (X := x3.toInt) (Y := 0) rfl (by decide) (by omega)) ?_
              refine xi_iload_n (pc' := 46) (x := x3) kc_88_45 rfl rfl ?_
              refine xi_getstatic (pc' := 49) (j := 1000002) kc_88_46 rfl rfl ?_
              refine xi_iload_n (pc' := 50) (x := 1) kc_88_49 rfl rfl ?_
              refine xi_ialoadO (pc' := 51) (v := 30) kc_88_50 rfl (by decide) hov2 (xi_in (n := 6) (by decide) (by decide)) rfl ?_
              by_cases c72 : x3.toInt ≤ 30
              · refine xi_cmt (pc' := 61) kc_88_51 rfl (xc_le_t (X := x3.toInt) (Y := 30) rfl (by decide) (by omega)) ?_
                refine xi_iload_n (pc' := 62) (x := 1) kc_88_61 rfl rfl ?_
                refine xi_iconst (pc' := 63) (v := 5) kc_88_62 rfl rfl ?_
                refine xi_cmt (pc' := 90) kc_88_63 rfl rfl ?_
                refine xi_aload_n (pc' := 91) (x := 0) kc_88_90 rfl rfl ?_
                refine xp_0 K.1 (fun u73 u74 bu73 bu74 A75 => ?_)
                refine xi_getfield (pc' := 94) (v := .ref 66) kc_88_91 rfl rfl rfl A75 rfl ?_
                refine xp_66 K.1 (fun u77 wl76 bu77 A78 => ?_)
                refine xi_virtual (mj := 91) (as := []) (st1 := []) (lv0 := [(0, .ref 66)]) kc_88_94 rfl rfl rfl rfl rfl A78 (Nat.le_of_ble_eq_true rfl) (hJ _ _ _ _ (by decide)) (xm_le ml_91 rfl) rfl ?_
                refine xi_aload_n (pc' := 1) (x := 66) kc_91_0 rfl rfl ?_
                refine xi_lconst (pc' := 2) (v := 0) kc_91_1 rfl rfl ?_
                refine xi_putfield (pc' := 5) (fs' := [.ref 1, .ref 67, .ref 70, .ref 71, .ref 72, .ref 73, .ref 74, .long 0, .int u77]) kc_91_2 rfl rfl rfl A78 rfl rfl rfl (Nat.le_of_ble_eq_true rfl) rfl (fun hh80 eh79 => ?_)
                have K81 := xk_pl (k := 7) (v := 0) K (xk_wf rfl) xD_66 A78 rfl eh79 rfl
                refine xi_return kc_91_5 mr_91 ?_
                show xw J ov (d + 2) 88 (97, [(0, .ref 0), (1, .int x1), (2, .int 1), (3, .int x3)], [], hh80) _
                refine xi_aload_n (pc' := 98) (x := 0) kc_88_97 rfl rfl ?_
                have A82 := ((eh79.2.1 0 (by decide)).trans A75)
                refine xi_getfield (pc' := 101) (v := .ref 1) kc_88_98 rfl rfl rfl A82 rfl ?_
                refine xi_iload_n (pc' := 102) (x := x1) kc_88_101 rfl rfl ?_
                refine xi_iload_n (pc' := 103) (x := 1) kc_88_102 rfl rfl ?_
                refine xi_iload_n (pc' := 104) (x := x3) kc_88_103 rfl rfl ?_
                refine xp_1 K81.1 (fun u83 u84 bu83 bu84 A85 => ?_)
                refine xi_virtual (mj := 92) (as := [.int x1, .int 1, .int x3]) (st1 := []) (lv0 := [(0, .ref 1), (1, .int x1), (2, .int 1), (3, .int x3)]) kc_88_104 rfl rfl rfl rfl rfl A85 (Nat.le_of_ble_eq_true rfl) (hJ _ _ _ _ (by decide)) (xm_le ml_92 rfl) rfl ?_
                refine xi_iload_n (pc' := 1) (x := x1) kc_92_0 rfl rfl ?_
                refine xi_static (mj := 89) (as := [.int x1]) (st1 := []) (lv0 := [(0, .int x1)]) kc_92_1 rfl rfl (Nat.le_of_ble_eq_true rfl) rfl rfl (Nat.le_of_ble_eq_true rfl) (hJ _ _ _ _ (by decide)) (xm_le ml_89 rfl) rfl ?_
                refine xi_iload_n (pc' := 1) (x := x1) kc_89_0 rfl rfl ?_
                refine xi_iff (pc' := 4) kc_89_1 rfl (xc_lt_f (X := x1.toInt) (Y := 0) rfl (by decide) (by omega)) ?_
                refine xi_iload_n (pc' := 5) (x := x1) kc_89_4 rfl rfl ?_
                refine xi_bipush (pc' := 7) (v := 6) kc_89_5 rfl rfl ?_
                refine xi_cmf (pc' := 10) kc_89_7 rfl (xc_ge_f (X := x1.toInt) (Y := 6) rfl (by decide) (by omega)) ?_
                refine xi_iconst (pc' := 11) (v := 1) kc_89_10 rfl rfl ?_
                refine xi_goto (pc' := 15) kc_89_11 rfl ?_
                refine xi_ireturn kc_89_15 mr_89 rfl ?_
                show xw J ov (d + 1) 92 (4, [(0, .ref 1), (1, .int x1), (2, .int 1), (3, .int x3)], [.int 1], hh80) _
                refine xi_iff (pc' := 7) kc_92_4 rfl rfl ?_
                refine xi_aload_n (pc' := 8) (x := 1) kc_92_7 rfl rfl ?_
                refine xi_getfield (pc' := 11) (v := .ref 2) kc_92_8 rfl rfl rfl A85 rfl ?_
                refine xi_iload_n (pc' := 12) (x := x1) kc_92_11 rfl rfl ?_
                have A86 := xk_ex K81.1 xD_2
                obtain ⟨pt87, ept87, mpt87⟩ := xR_2 (i := x1) (by omega) (by omega)
                refine xj_aaload (pc' := 13) (b := pt87) kc_92_12 rfl A86 rfl (xi_in (n := 6) (by omega) (by omega)) ept87 ?_
                refine xi_iload_n (pc' := 14) (x := 1) kc_92_13 rfl rfl ?_
                refine xi_iload_n (pc' := 15) (x := x3) kc_92_14 rfl rfl ?_
                obtain ⟨pt88, pt89, mpt88, mpt89, A90⟩ := xg_room K81.1 mpt87
                refine xi_virtual (mj := 93) (as := [.int 1, .int x3]) (st1 := []) (lv0 := [(0, .ref pt87), (1, .int 1), (2, .int x3)]) kc_92_15 rfl rfl rfl rfl rfl A90 (Nat.le_of_ble_eq_true rfl) (hJ _ _ _ _ (by decide)) (xm_le ml_93 rfl) rfl ?_
                refine xi_iload_n (pc' := 1) (x := 1) kc_93_0 rfl rfl ?_
                refine xi_iff (pc' := 4) kc_93_1 rfl rfl ?_
                refine xi_iload_n (pc' := 5) (x := 1) kc_93_4 rfl rfl ?_
                refine xi_iconst (pc' := 6) (v := 5) kc_93_5 rfl rfl ?_
                refine xi_cmt (pc' := 11) kc_93_6 rfl rfl ?_
                refine xi_aload_n (pc' := 12) (x := pt87) kc_93_11 rfl rfl ?_
                refine xi_getfield (pc' := 15) (v := .ref pt88) kc_93_12 rfl rfl rfl A90 rfl ?_
                refine xi_iload_n (pc' := 16) (x := 1) kc_93_15 rfl rfl ?_
                refine xcps4 (xk_arr K81.1 (xGD_room0 mpt88)) (fun y91 A91 hy91 ry91 => ?_)
                refine xcps4 (xj_get hy91 ry91 (i := 1) (by decide) (by decide)) (fun v92 ev92 bv92 dv92 => ?_)
                refine xi_iaload (pc' := 17) (v := v92) kc_93_16 rfl A91 (xk_lo mpt88 rfl) rfl (xi_in (by decide) (by rw [hy91]; decide)) ev92 ?_
                refine xi_istore_n (pc' := 18) (lv' := [(3, .int v92), (0, .ref pt87), (1, .int 1), (2, .int x3)]) kc_93_17 rfl rfl (xm_lt ml_93 rfl) ?_
                refine xi_aload_n (pc' := 19) (x := pt87) kc_93_18 rfl rfl ?_
                refine xi_getfield (pc' := 22) (v := .ref pt88) kc_93_19 rfl rfl rfl A90 rfl ?_
                refine xi_iload_n (pc' := 23) (x := 1) kc_93_22 rfl rfl ?_
                refine xi_iload_n (pc' := 24) (x := x3) kc_93_23 rfl rfl ?_
                refine xcps4 (xj_set (v := x3) hy91 ry91 1 (by first | omega | decide) (by first | omega | decide)) (fun y93 s93 hy93 ry93 => ?_)
                refine xi_iastore (pc' := 25) (x' := y93) kc_93_24 rfl A91 rfl (xi_in (by decide) (by rw [hy91]; decide)) s93 (fun hh93 eh93 => ?_)
                have K94 := xk_pa K81 (xk_ga mpt88 rfl) (xGD_room0 mpt88) hy93 ry93 eh93
                refine xi_iload_n (pc' := 26) (x := v92) kc_93_25 rfl rfl ?_
                refine xi_ireturn kc_93_26 mr_93 rfl ?_
                show xw J ov (d + 1) 92 (18, [(0, .ref 1), (1, .int x1), (2, .int 1), (3, .int x3)], [.int v92], hh93) _
                refine xi_goto (pc' := 22) kc_92_18 rfl ?_
                refine xi_ireturn kc_92_22 mr_92 rfl ?_
                show xw J ov (d + 2) 88 (107, [(0, .ref 0), (1, .int x1), (2, .int 1), (3, .int x3)], [.int v92], hh93) _
                refine xi_ireturn kc_88_107 mr_88 rfl ?_
                exact kk v92 hh93 K94
              · refine xi_cmf (pc' := 54) kc_88_51 rfl (xc_le_f (X := x3.toInt) (Y := 30) rfl (by decide) (by omega)) ?_
                refine xi_aload_n (pc' := 55) (x := 0) kc_88_54 rfl rfl ?_
                refine xi_bipush (pc' := 57) (v := (-6)) kc_88_55 rfl rfl ?_
                refine xp_0 K.1 (fun u95 u96 bu95 bu96 A97 => ?_)
                refine xi_virtual (mj := 90) (as := [.int (-6)]) (st1 := []) (lv0 := [(0, .ref 0), (1, .int (-6))]) kc_88_57 rfl rfl rfl rfl rfl A97 (Nat.le_of_ble_eq_true rfl) (hJ _ _ _ _ (by decide)) (xm_le ml_90 rfl) rfl ?_
                refine xi_iload_n (pc' := 1) (x := (-6)) kc_90_0 rfl rfl ?_
                refine xi_ineg (pc' := 2) (v := 6) kc_90_1 rfl rfl ?_
                refine xi_istore_n (pc' := 3) (lv' := [(2, .int 6), (0, .ref 0), (1, .int (-6))]) kc_90_2 rfl rfl (xm_lt ml_90 rfl) ?_
                refine xi_iload_n (pc' := 4) (x := 6) kc_90_3 rfl rfl ?_
                refine xi_iff (pc' := 7) kc_90_4 rfl rfl ?_
                refine xi_iload_n (pc' := 8) (x := 6) kc_90_7 rfl rfl ?_
                refine xi_aload_n (pc' := 9) (x := 0) kc_90_8 rfl rfl ?_
                refine xi_getfield (pc' := 12) (v := .ref 94) kc_90_9 rfl rfl rfl A97 rfl ?_
                refine xcps4 (xk_arr K.1 xD_94) (fun y98 A98 hy98 ry98 => ?_)
                refine xi_arraylength (pc' := 13) (n := 7) (v := 7) kc_90_12 rfl (xl_lenI (by decide) (by decide) A98 hy98) rfl ?_
                refine xi_cmf (pc' := 16) kc_90_13 rfl rfl ?_
                refine xi_aload_n (pc' := 17) (x := 0) kc_90_16 rfl rfl ?_
                refine xi_getfield (pc' := 20) (v := .ref 94) kc_90_17 rfl rfl rfl A97 rfl ?_
                refine xi_iload_n (pc' := 21) (x := 6) kc_90_20 rfl rfl ?_
                refine xi_dup2 (pc' := 22) kc_90_21 rfl ⟨rfl, rfl⟩ ?_
                refine xcps4 (xj_get hy98 ry98 (i := 6) (by decide) (by decide)) (fun v99 ev99 bv99 dv99 => ?_)
                refine xi_iaload (pc' := 23) (v := v99) kc_90_22 rfl A98 (by decide) rfl (xi_in (by decide) (by rw [hy98]; decide)) ev99 ?_
                refine xi_iconst (pc' := 24) (v := 1) kc_90_23 rfl rfl ?_
                refine xcps2 (α := Int32) ((v99 : Int32) + 1) (fun v100 ev100 => ?_)
                have rv100 := xc_rng v100
                refine xi_iadd (pc' := 25) (v := v100) kc_90_24 rfl ev100 ?_
                refine xcps4 (xj_set (v := v100) hy98 ry98 6 (by first | omega | decide) (by first | omega | decide)) (fun y101 s101 hy101 ry101 => ?_)
                refine xi_iastore (pc' := 26) (x' := y101) kc_90_25 rfl A98 rfl (xi_in (by decide) (by rw [hy98]; decide)) s101 (fun hh101 eh101 => ?_)
                have K102 := xk_pa K (xk_wa rfl) xD_94 hy101 ry101 eh101
                refine xi_iload_n (pc' := 27) (x := (-6)) kc_90_26 rfl rfl ?_
                refine xi_ireturn kc_90_27 mr_90 rfl ?_
                show xw J ov (d + 2) 88 (60, [(0, .ref 0), (1, .int x1), (2, .int 1), (3, .int x3)], [.int (-6)], hh101) _
                refine xi_ireturn kc_88_60 mr_88 rfl ?_
                have zcm6 : ((-6) : Int32).toInt = (-6) := by decide
                exact kk (-6) hh101 K102
            · refine xi_cmf (pc' := 38) kc_88_35 rfl (xc_ge_f (X := x3.toInt) (Y := 0) rfl (by decide) (by omega)) ?_
              refine xi_aload_n (pc' := 39) (x := 0) kc_88_38 rfl rfl ?_
              refine xi_bipush (pc' := 41) (v := (-4)) kc_88_39 rfl rfl ?_
              refine xp_0 K.1 (fun u103 u104 bu103 bu104 A105 => ?_)
              refine xi_virtual (mj := 90) (as := [.int (-4)]) (st1 := []) (lv0 := [(0, .ref 0), (1, .int (-4))]) kc_88_41 rfl rfl rfl rfl rfl A105 (Nat.le_of_ble_eq_true rfl) (hJ _ _ _ _ (by decide)) (xm_le ml_90 rfl) rfl ?_
              refine xi_iload_n (pc' := 1) (x := (-4)) kc_90_0 rfl rfl ?_
              refine xi_ineg (pc' := 2) (v := 4) kc_90_1 rfl rfl ?_
              refine xi_istore_n (pc' := 3) (lv' := [(2, .int 4), (0, .ref 0), (1, .int (-4))]) kc_90_2 rfl rfl (xm_lt ml_90 rfl) ?_
              refine xi_iload_n (pc' := 4) (x := 4) kc_90_3 rfl rfl ?_
              refine xi_iff (pc' := 7) kc_90_4 rfl rfl ?_
              refine xi_iload_n (pc' := 8) (x := 4) kc_90_7 rfl rfl ?_
              refine xi_aload_n (pc' := 9) (x := 0) kc_90_8 rfl rfl ?_
              refine xi_getfield (pc' := 12) (v := .ref 94) kc_90_9 rfl rfl rfl A105 rfl ?_
              refine xcps4 (xk_arr K.1 xD_94) (fun y106 A106 hy106 ry106 => ?_)
              refine xi_arraylength (pc' := 13) (n := 7) (v := 7) kc_90_12 rfl (xl_lenI (by decide) (by decide) A106 hy106) rfl ?_
              refine xi_cmf (pc' := 16) kc_90_13 rfl rfl ?_
              refine xi_aload_n (pc' := 17) (x := 0) kc_90_16 rfl rfl ?_
              refine xi_getfield (pc' := 20) (v := .ref 94) kc_90_17 rfl rfl rfl A105 rfl ?_
              refine xi_iload_n (pc' := 21) (x := 4) kc_90_20 rfl rfl ?_
              refine xi_dup2 (pc' := 22) kc_90_21 rfl ⟨rfl, rfl⟩ ?_
              refine xcps4 (xj_get hy106 ry106 (i := 4) (by decide) (by decide)) (fun v107 ev107 bv107 dv107 => ?_)
              refine xi_iaload (pc' := 23) (v := v107) kc_90_22 rfl A106 (by decide) rfl (xi_in (by decide) (by rw [hy106]; decide)) ev107 ?_
              refine xi_iconst (pc' := 24) (v := 1) kc_90_23 rfl rfl ?_
              refine xcps2 (α := Int32) ((v107 : Int32) + 1) (fun v108 ev108 => ?_)
              have rv108 := xc_rng v108
              refine xi_iadd (pc' := 25) (v := v108) kc_90_24 rfl ev108 ?_
              refine xcps4 (xj_set (v := v108) hy106 ry106 4 (by first | omega | decide) (by first | omega | decide)) (fun y109 s109 hy109 ry109 => ?_)
              refine xi_iastore (pc' := 26) (x' := y109) kc_90_25 rfl A106 rfl (xi_in (by decide) (by rw [hy106]; decide)) s109 (fun hh109 eh109 => ?_)
              have K110 := xk_pa K (xk_wa rfl) xD_94 hy109 ry109 eh109
              refine xi_iload_n (pc' := 27) (x := (-4)) kc_90_26 rfl rfl ?_
              refine xi_ireturn kc_90_27 mr_90 rfl ?_
              show xw J ov (d + 2) 88 (44, [(0, .ref 0), (1, .int x1), (2, .int 1), (3, .int x3)], [.int (-4)], hh109) _
              refine xi_ireturn kc_88_44 mr_88 rfl ?_
              have zcm4 : ((-4) : Int32).toInt = (-4) := by decide
              exact kk (-4) hh109 K110
          by_cases c111 : x2.toInt = 2
          · have qx2 : x2 = 2 := xc_of (Eq.trans (by omega) (show (2 : Int) = (2 : Int32).toInt by decide))
            subst qx2
            refine xi_ialoadO (pc' := 35) (v := 0) kc_88_34 rfl (by decide) hov1 (xi_in (n := 6) (by decide) (by decide)) rfl ?_
            by_cases c112 : 0 ≤ x3.toInt
            · refine xi_cmt (pc' := 45) kc_88_35 rfl (xc_ge_t (X := x3.toInt) (Y := 0) rfl (by decide) (by omega)) ?_
              refine xi_iload_n (pc' := 46) (x := x3) kc_88_45 rfl rfl ?_
              refine xi_getstatic (pc' := 49) (j := 1000002) kc_88_46 rfl rfl ?_
              refine xi_iload_n (pc' := 50) (x := 2) kc_88_49 rfl rfl ?_
              refine xi_ialoadO (pc' := 51) (v := 50) kc_88_50 rfl (by decide) hov2 (xi_in (n := 6) (by decide) (by decide)) rfl ?_
              by_cases c113 : x3.toInt ≤ 50
              · refine xi_cmt (pc' := 61) kc_88_51 rfl (xc_le_t (X := x3.toInt) (Y := 50) rfl (by decide) (by omega)) ?_
                refine xi_iload_n (pc' := 62) (x := 2) kc_88_61 rfl rfl ?_
                refine xi_iconst (pc' := 63) (v := 5) kc_88_62 rfl rfl ?_
                refine xi_cmt (pc' := 90) kc_88_63 rfl rfl ?_
                refine xi_aload_n (pc' := 91) (x := 0) kc_88_90 rfl rfl ?_
                refine xp_0 K.1 (fun u114 u115 bu114 bu115 A116 => ?_)
                refine xi_getfield (pc' := 94) (v := .ref 66) kc_88_91 rfl rfl rfl A116 rfl ?_
                refine xp_66 K.1 (fun u118 wl117 bu118 A119 => ?_)
                refine xi_virtual (mj := 91) (as := []) (st1 := []) (lv0 := [(0, .ref 66)]) kc_88_94 rfl rfl rfl rfl rfl A119 (Nat.le_of_ble_eq_true rfl) (hJ _ _ _ _ (by decide)) (xm_le ml_91 rfl) rfl ?_
                refine xi_aload_n (pc' := 1) (x := 66) kc_91_0 rfl rfl ?_
                refine xi_lconst (pc' := 2) (v := 0) kc_91_1 rfl rfl ?_
                refine xi_putfield (pc' := 5) (fs' := [.ref 1, .ref 67, .ref 70, .ref 71, .ref 72, .ref 73, .ref 74, .long 0, .int u118]) kc_91_2 rfl rfl rfl A119 rfl rfl rfl (Nat.le_of_ble_eq_true rfl) rfl (fun hh121 eh120 => ?_)
                have K122 := xk_pl (k := 7) (v := 0) K (xk_wf rfl) xD_66 A119 rfl eh120 rfl
                refine xi_return kc_91_5 mr_91 ?_
                show xw J ov (d + 2) 88 (97, [(0, .ref 0), (1, .int x1), (2, .int 2), (3, .int x3)], [], hh121) _
                refine xi_aload_n (pc' := 98) (x := 0) kc_88_97 rfl rfl ?_
                have A123 := ((eh120.2.1 0 (by decide)).trans A116)
                refine xi_getfield (pc' := 101) (v := .ref 1) kc_88_98 rfl rfl rfl A123 rfl ?_
                refine xi_iload_n (pc' := 102) (x := x1) kc_88_101 rfl rfl ?_
                refine xi_iload_n (pc' := 103) (x := 2) kc_88_102 rfl rfl ?_
                refine xi_iload_n (pc' := 104) (x := x3) kc_88_103 rfl rfl ?_
                refine xp_1 K122.1 (fun u124 u125 bu124 bu125 A126 => ?_)
                refine xi_virtual (mj := 92) (as := [.int x1, .int 2, .int x3]) (st1 := []) (lv0 := [(0, .ref 1), (1, .int x1), (2, .int 2), (3, .int x3)]) kc_88_104 rfl rfl rfl rfl rfl A126 (Nat.le_of_ble_eq_true rfl) (hJ _ _ _ _ (by decide)) (xm_le ml_92 rfl) rfl ?_
                refine xi_iload_n (pc' := 1) (x := x1) kc_92_0 rfl rfl ?_
                refine xi_static (mj := 89) (as := [.int x1]) (st1 := []) (lv0 := [(0, .int x1)]) kc_92_1 rfl rfl (Nat.le_of_ble_eq_true rfl) rfl rfl (Nat.le_of_ble_eq_true rfl) (hJ _ _ _ _ (by decide)) (xm_le ml_89 rfl) rfl ?_
                refine xi_iload_n (pc' := 1) (x := x1) kc_89_0 rfl rfl ?_
                refine xi_iff (pc' := 4) kc_89_1 rfl (xc_lt_f (X := x1.toInt) (Y := 0) rfl (by decide) (by omega)) ?_
                refine xi_iload_n (pc' := 5) (x := x1) kc_89_4 rfl rfl ?_
                refine xi_bipush (pc' := 7) (v := 6) kc_89_5 rfl rfl ?_
                refine xi_cmf (pc' := 10) kc_89_7 rfl (xc_ge_f (X := x1.toInt) (Y := 6) rfl (by decide) (by omega)) ?_
                refine xi_iconst (pc' := 11) (v := 1) kc_89_10 rfl rfl ?_
                refine xi_goto (pc' := 15) kc_89_11 rfl ?_
                refine xi_ireturn kc_89_15 mr_89 rfl ?_
                show xw J ov (d + 1) 92 (4, [(0, .ref 1), (1, .int x1), (2, .int 2), (3, .int x3)], [.int 1], hh121) _
                refine xi_iff (pc' := 7) kc_92_4 rfl rfl ?_
                refine xi_aload_n (pc' := 8) (x := 1) kc_92_7 rfl rfl ?_
                refine xi_getfield (pc' := 11) (v := .ref 2) kc_92_8 rfl rfl rfl A126 rfl ?_
                refine xi_iload_n (pc' := 12) (x := x1) kc_92_11 rfl rfl ?_
                have A127 := xk_ex K122.1 xD_2
                obtain ⟨pt128, ept128, mpt128⟩ := xR_2 (i := x1) (by omega) (by omega)
                refine xj_aaload (pc' := 13) (b := pt128) kc_92_12 rfl A127 rfl (xi_in (n := 6) (by omega) (by omega)) ept128 ?_
                refine xi_iload_n (pc' := 14) (x := 2) kc_92_13 rfl rfl ?_
                refine xi_iload_n (pc' := 15) (x := x3) kc_92_14 rfl rfl ?_
                obtain ⟨pt129, pt130, mpt129, mpt130, A131⟩ := xg_room K122.1 mpt128
                refine xi_virtual (mj := 93) (as := [.int 2, .int x3]) (st1 := []) (lv0 := [(0, .ref pt128), (1, .int 2), (2, .int x3)]) kc_92_15 rfl rfl rfl rfl rfl A131 (Nat.le_of_ble_eq_true rfl) (hJ _ _ _ _ (by decide)) (xm_le ml_93 rfl) rfl ?_
                refine xi_iload_n (pc' := 1) (x := 2) kc_93_0 rfl rfl ?_
                refine xi_iff (pc' := 4) kc_93_1 rfl rfl ?_
                refine xi_iload_n (pc' := 5) (x := 2) kc_93_4 rfl rfl ?_
                refine xi_iconst (pc' := 6) (v := 5) kc_93_5 rfl rfl ?_
                refine xi_cmt (pc' := 11) kc_93_6 rfl rfl ?_
                refine xi_aload_n (pc' := 12) (x := pt128) kc_93_11 rfl rfl ?_
                refine xi_getfield (pc' := 15) (v := .ref pt129) kc_93_12 rfl rfl rfl A131 rfl ?_
                refine xi_iload_n (pc' := 16) (x := 2) kc_93_15 rfl rfl ?_
                refine xcps4 (xk_arr K122.1 (xGD_room0 mpt129)) (fun y132 A132 hy132 ry132 => ?_)
                refine xcps4 (xj_get hy132 ry132 (i := 2) (by decide) (by decide)) (fun v133 ev133 bv133 dv133 => ?_)
                refine xi_iaload (pc' := 17) (v := v133) kc_93_16 rfl A132 (xk_lo mpt129 rfl) rfl (xi_in (by decide) (by rw [hy132]; decide)) ev133 ?_
                refine xi_istore_n (pc' := 18) (lv' := [(3, .int v133), (0, .ref pt128), (1, .int 2), (2, .int x3)]) kc_93_17 rfl rfl (xm_lt ml_93 rfl) ?_
                refine xi_aload_n (pc' := 19) (x := pt128) kc_93_18 rfl rfl ?_
                refine xi_getfield (pc' := 22) (v := .ref pt129) kc_93_19 rfl rfl rfl A131 rfl ?_
                refine xi_iload_n (pc' := 23) (x := 2) kc_93_22 rfl rfl ?_
                refine xi_iload_n (pc' := 24) (x := x3) kc_93_23 rfl rfl ?_
                refine xcps4 (xj_set (v := x3) hy132 ry132 2 (by first | omega | decide) (by first | omega | decide)) (fun y134 s134 hy134 ry134 => ?_)
                refine xi_iastore (pc' := 25) (x' := y134) kc_93_24 rfl A132 rfl (xi_in (by decide) (by rw [hy132]; decide)) s134 (fun hh134 eh134 => ?_)
                have K135 := xk_pa K122 (xk_ga mpt129 rfl) (xGD_room0 mpt129) hy134 ry134 eh134
                refine xi_iload_n (pc' := 26) (x := v133) kc_93_25 rfl rfl ?_
                refine xi_ireturn kc_93_26 mr_93 rfl ?_
                show xw J ov (d + 1) 92 (18, [(0, .ref 1), (1, .int x1), (2, .int 2), (3, .int x3)], [.int v133], hh134) _
                refine xi_goto (pc' := 22) kc_92_18 rfl ?_
                refine xi_ireturn kc_92_22 mr_92 rfl ?_
                show xw J ov (d + 2) 88 (107, [(0, .ref 0), (1, .int x1), (2, .int 2), (3, .int x3)], [.int v133], hh134) _
                refine xi_ireturn kc_88_107 mr_88 rfl ?_
                exact kk v133 hh134 K135
              · refine xi_cmf (pc' := 54) kc_88_51 rfl (xc_le_f (X := x3.toInt) (Y := 50) rfl (by decide) (by omega)) ?_
                refine xi_aload_n (pc' := 55) (x := 0) kc_88_54 rfl rfl ?_
                refine xi_bipush (pc' := 57) (v := (-6)) kc_88_55 rfl rfl ?_
                refine xp_0 K.1 (fun u136 u137 bu136 bu137 A138 => ?_)
                refine xi_virtual (mj := 90) (as := [.int (-6)]) (st1 := []) (lv0 := [(0, .ref 0), (1, .int (-6))]) kc_88_57 rfl rfl rfl rfl rfl A138 (Nat.le_of_ble_eq_true rfl) (hJ _ _ _ _ (by decide)) (xm_le ml_90 rfl) rfl ?_
                refine xi_iload_n (pc' := 1) (x := (-6)) kc_90_0 rfl rfl ?_
                refine xi_ineg (pc' := 2) (v := 6) kc_90_1 rfl rfl ?_
                refine xi_istore_n (pc' := 3) (lv' := [(2, .int 6), (0, .ref 0), (1, .int (-6))]) kc_90_2 rfl rfl (xm_lt ml_90 rfl) ?_
                refine xi_iload_n (pc' := 4) (x := 6) kc_90_3 rfl rfl ?_
                refine xi_iff (pc' := 7) kc_90_4 rfl rfl ?_
                refine xi_iload_n (pc' := 8) (x := 6) kc_90_7 rfl rfl ?_
                refine xi_aload_n (pc' := 9) (x := 0) kc_90_8 rfl rfl ?_
                refine xi_getfield (pc' := 12) (v := .ref 94) kc_90_9 rfl rfl rfl A138 rfl ?_
                refine xcps4 (xk_arr K.1 xD_94) (fun y139 A139 hy139 ry139 => ?_)
                refine xi_arraylength (pc' := 13) (n := 7) (v := 7) kc_90_12 rfl (xl_lenI (by decide) (by decide) A139 hy139) rfl ?_
                refine xi_cmf (pc' := 16) kc_90_13 rfl rfl ?_
                refine xi_aload_n (pc' := 17) (x := 0) kc_90_16 rfl rfl ?_
                refine xi_getfield (pc' := 20) (v := .ref 94) kc_90_17 rfl rfl rfl A138 rfl ?_
                refine xi_iload_n (pc' := 21) (x := 6) kc_90_20 rfl rfl ?_
                refine xi_dup2 (pc' := 22) kc_90_21 rfl ⟨rfl, rfl⟩ ?_
                refine xcps4 (xj_get hy139 ry139 (i := 6) (by decide) (by decide)) (fun v140 ev140 bv140 dv140 => ?_)
                refine xi_iaload (pc' := 23) (v := v140) kc_90_22 rfl A139 (by decide) rfl (xi_in (by decide) (by rw [hy139]; decide)) ev140 ?_
                refine xi_iconst (pc' := 24) (v := 1) kc_90_23 rfl rfl ?_
                refine xcps2 (α := Int32) ((v140 : Int32) + 1) (fun v141 ev141 => ?_)
                have rv141 := xc_rng v141
                refine xi_iadd (pc' := 25) (v := v141) kc_90_24 rfl ev141 ?_
                refine xcps4 (xj_set (v := v141) hy139 ry139 6 (by first | omega | decide) (by first | omega | decide)) (fun y142 s142 hy142 ry142 => ?_)
                refine xi_iastore (pc' := 26) (x' := y142) kc_90_25 rfl A139 rfl (xi_in (by decide) (by rw [hy139]; decide)) s142 (fun hh142 eh142 => ?_)
                have K143 := xk_pa K (xk_wa rfl) xD_94 hy142 ry142 eh142
                refine xi_iload_n (pc' := 27) (x := (-6)) kc_90_26 rfl rfl ?_
                refine xi_ireturn kc_90_27 mr_90 rfl ?_
                show xw J ov (d + 2) 88 (60, [(0, .ref 0), (1, .int x1), (2, .int 2), (3, .int x3)], [.int (-6)], hh142) _
                refine xi_ireturn kc_88_60 mr_88 rfl ?_
                have zcm6 : ((-6) : Int32).toInt = (-6) := by decide
                exact kk (-6) hh142 K143
            · refine xi_cmf (pc' := 38) kc_88_35 rfl (xc_ge_f (X := x3.toInt) (Y := 0) rfl (by decide) (by omega)) ?_
              refine xi_aload_n (pc' := 39) (x := 0) kc_88_38 rfl rfl ?_
              refine xi_bipush (pc' := 41) (v := (-4)) kc_88_39 rfl rfl ?_
              refine xp_0 K.1 (fun u144 u145 bu144 bu145 A146 => ?_)
              refine xi_virtual (mj := 90) (as := [.int (-4)]) (st1 := []) (lv0 := [(0, .ref 0), (1, .int (-4))]) kc_88_41 rfl rfl rfl rfl rfl A146 (Nat.le_of_ble_eq_true rfl) (hJ _ _ _ _ (by decide)) (xm_le ml_90 rfl) rfl ?_
              refine xi_iload_n (pc' := 1) (x := (-4)) kc_90_0 rfl rfl ?_
              refine xi_ineg (pc' := 2) (v := 4) kc_90_1 rfl rfl ?_
              refine xi_istore_n (pc' := 3) (lv' := [(2, .int 4), (0, .ref 0), (1, .int (-4))]) kc_90_2 rfl rfl (xm_lt ml_90 rfl) ?_
              refine xi_iload_n (pc' := 4) (x := 4) kc_90_3 rfl rfl ?_
              refine xi_iff (pc' := 7) kc_90_4 rfl rfl ?_
              refine xi_iload_n (pc' := 8) (x := 4) kc_90_7 rfl rfl ?_
              refine xi_aload_n (pc' := 9) (x := 0) kc_90_8 rfl rfl ?_
              refine xi_getfield (pc' := 12) (v := .ref 94) kc_90_9 rfl rfl rfl A146 rfl ?_
              refine xcps4 (xk_arr K.1 xD_94) (fun y147 A147 hy147 ry147 => ?_)
              refine xi_arraylength (pc' := 13) (n := 7) (v := 7) kc_90_12 rfl (xl_lenI (by decide) (by decide) A147 hy147) rfl ?_
              refine xi_cmf (pc' := 16) kc_90_13 rfl rfl ?_
              refine xi_aload_n (pc' := 17) (x := 0) kc_90_16 rfl rfl ?_
              refine xi_getfield (pc' := 20) (v := .ref 94) kc_90_17 rfl rfl rfl A146 rfl ?_
              refine xi_iload_n (pc' := 21) (x := 4) kc_90_20 rfl rfl ?_
              refine xi_dup2 (pc' := 22) kc_90_21 rfl ⟨rfl, rfl⟩ ?_
              refine xcps4 (xj_get hy147 ry147 (i := 4) (by decide) (by decide)) (fun v148 ev148 bv148 dv148 => ?_)
              refine xi_iaload (pc' := 23) (v := v148) kc_90_22 rfl A147 (by decide) rfl (xi_in (by decide) (by rw [hy147]; decide)) ev148 ?_
              refine xi_iconst (pc' := 24) (v := 1) kc_90_23 rfl rfl ?_
              refine xcps2 (α := Int32) ((v148 : Int32) + 1) (fun v149 ev149 => ?_)
              have rv149 := xc_rng v149
              refine xi_iadd (pc' := 25) (v := v149) kc_90_24 rfl ev149 ?_
              refine xcps4 (xj_set (v := v149) hy147 ry147 4 (by first | omega | decide) (by first | omega | decide)) (fun y150 s150 hy150 ry150 => ?_)
              refine xi_iastore (pc' := 26) (x' := y150) kc_90_25 rfl A147 rfl (xi_in (by decide) (by rw [hy147]; decide)) s150 (fun hh150 eh150 => ?_)
              have K151 := xk_pa K (xk_wa rfl) xD_94 hy150 ry150 eh150
              refine xi_iload_n (pc' := 27) (x := (-4)) kc_90_26 rfl rfl ?_
              refine xi_ireturn kc_90_27 mr_90 rfl ?_
              show xw J ov (d + 2) 88 (44, [(0, .ref 0), (1, .int x1), (2, .int 2), (3, .int x3)], [.int (-4)], hh150) _
              refine xi_ireturn kc_88_44 mr_88 rfl ?_
              have zcm4 : ((-4) : Int32).toInt = (-4) := by decide
              exact kk (-4) hh150 K151
          by_cases c152 : x2.toInt = 3
          · have qx2 : x2 = 3 := xc_of (Eq.trans (by omega) (show (3 : Int) = (3 : Int32).toInt by decide))
            subst qx2
            refine xi_ialoadO (pc' := 35) (v := 0) kc_88_34 rfl (by decide) hov1 (xi_in (n := 6) (by decide) (by decide)) rfl ?_
            by_cases c153 : 0 ≤ x3.toInt
            · refine xi_cmt (pc' := 45) kc_88_35 rfl (xc_ge_t (X := x3.toInt) (Y := 0) rfl (by decide) (by omega)) ?_
              refine xi_iload_n (pc' := 46) (x := x3) kc_88_45 rfl rfl ?_
              refine xi_getstatic (pc' := 49) (j := 1000002) kc_88_46 rfl rfl ?_
              refine xi_iload_n (pc' := 50) (x := 3) kc_88_49 rfl rfl ?_
              refine xi_ialoadO (pc' := 51) (v := 50) kc_88_50 rfl (by decide) hov2 (xi_in (n := 6) (by decide) (by decide)) rfl ?_
              by_cases c154 : x3.toInt ≤ 50
              · refine xi_cmt (pc' := 61) kc_88_51 rfl (xc_le_t (X := x3.toInt) (Y := 50) rfl (by decide) (by omega)) ?_
                refine xi_iload_n (pc' := 62) (x := 3) kc_88_61 rfl rfl ?_
                refine xi_iconst (pc' := 63) (v := 5) kc_88_62 rfl rfl ?_
                refine xi_cmt (pc' := 90) kc_88_63 rfl rfl ?_
                refine xi_aload_n (pc' := 91) (x := 0) kc_88_90 rfl rfl ?_
                refine xp_0 K.1 (fun u155 u156 bu155 bu156 A157 => ?_)
                refine xi_getfield (pc' := 94) (v := .ref 66) kc_88_91 rfl rfl rfl A157 rfl ?_
                refine xp_66 K.1 (fun u159 wl158 bu159 A160 => ?_)
                refine xi_virtual (mj := 91) (as := []) (st1 := []) (lv0 := [(0, .ref 66)]) kc_88_94 rfl rfl rfl rfl rfl A160 (Nat.le_of_ble_eq_true rfl) (hJ _ _ _ _ (by decide)) (xm_le ml_91 rfl) rfl ?_
                refine xi_aload_n (pc' := 1) (x := 66) kc_91_0 rfl rfl ?_
                refine xi_lconst (pc' := 2) (v := 0) kc_91_1 rfl rfl ?_
                refine xi_putfield (pc' := 5) (fs' := [.ref 1, .ref 67, .ref 70, .ref 71, .ref 72, .ref 73, .ref 74, .long 0, .int u159]) kc_91_2 rfl rfl rfl A160 rfl rfl rfl (Nat.le_of_ble_eq_true rfl) rfl (fun hh162 eh161 => ?_)
                have K163 := xk_pl (k := 7) (v := 0) K (xk_wf rfl) xD_66 A160 rfl eh161 rfl
                refine xi_return kc_91_5 mr_91 ?_
                show xw J ov (d + 2) 88 (97, [(0, .ref 0), (1, .int x1), (2, .int 3), (3, .int x3)], [], hh162) _
                refine xi_aload_n (pc' := 98) (x := 0) kc_88_97 rfl rfl ?_
                have A164 := ((eh161.2.1 0 (by decide)).trans A157)
                refine xi_getfield (pc' := 101) (v := .ref 1) kc_88_98 rfl rfl rfl A164 rfl ?_
                refine xi_iload_n (pc' := 102) (x := x1) kc_88_101 rfl rfl ?_
                refine xi_iload_n (pc' := 103) (x := 3) kc_88_102 rfl rfl ?_
                refine xi_iload_n (pc' := 104) (x := x3) kc_88_103 rfl rfl ?_
                refine xp_1 K163.1 (fun u165 u166 bu165 bu166 A167 => ?_)
                refine xi_virtual (mj := 92) (as := [.int x1, .int 3, .int x3]) (st1 := []) (lv0 := [(0, .ref 1), (1, .int x1), (2, .int 3), (3, .int x3)]) kc_88_104 rfl rfl rfl rfl rfl A167 (Nat.le_of_ble_eq_true rfl) (hJ _ _ _ _ (by decide)) (xm_le ml_92 rfl) rfl ?_
                refine xi_iload_n (pc' := 1) (x := x1) kc_92_0 rfl rfl ?_
                refine xi_static (mj := 89) (as := [.int x1]) (st1 := []) (lv0 := [(0, .int x1)]) kc_92_1 rfl rfl (Nat.le_of_ble_eq_true rfl) rfl rfl (Nat.le_of_ble_eq_true rfl) (hJ _ _ _ _ (by decide)) (xm_le ml_89 rfl) rfl ?_
                refine xi_iload_n (pc' := 1) (x := x1) kc_89_0 rfl rfl ?_
                refine xi_iff (pc' := 4) kc_89_1 rfl (xc_lt_f (X := x1.toInt) (Y := 0) rfl (by decide) (by omega)) ?_
                refine xi_iload_n (pc' := 5) (x := x1) kc_89_4 rfl rfl ?_
                refine xi_bipush (pc' := 7) (v := 6) kc_89_5 rfl rfl ?_
                refine xi_cmf (pc' := 10) kc_89_7 rfl (xc_ge_f (X := x1.toInt) (Y := 6) rfl (by decide) (by omega)) ?_
                refine xi_iconst (pc' := 11) (v := 1) kc_89_10 rfl rfl ?_
                refine xi_goto (pc' := 15) kc_89_11 rfl ?_
                refine xi_ireturn kc_89_15 mr_89 rfl ?_
                show xw J ov (d + 1) 92 (4, [(0, .ref 1), (1, .int x1), (2, .int 3), (3, .int x3)], [.int 1], hh162) _
                refine xi_iff (pc' := 7) kc_92_4 rfl rfl ?_
                refine xi_aload_n (pc' := 8) (x := 1) kc_92_7 rfl rfl ?_
                refine xi_getfield (pc' := 11) (v := .ref 2) kc_92_8 rfl rfl rfl A167 rfl ?_
                refine xi_iload_n (pc' := 12) (x := x1) kc_92_11 rfl rfl ?_
                have A168 := xk_ex K163.1 xD_2
                obtain ⟨pt169, ept169, mpt169⟩ := xR_2 (i := x1) (by omega) (by omega)
                refine xj_aaload (pc' := 13) (b := pt169) kc_92_12 rfl A168 rfl (xi_in (n := 6) (by omega) (by omega)) ept169 ?_
                refine xi_iload_n (pc' := 14) (x := 3) kc_92_13 rfl rfl ?_
                refine xi_iload_n (pc' := 15) (x := x3) kc_92_14 rfl rfl ?_
                obtain ⟨pt170, pt171, mpt170, mpt171, A172⟩ := xg_room K163.1 mpt169
                refine xi_virtual (mj := 93) (as := [.int 3, .int x3]) (st1 := []) (lv0 := [(0, .ref pt169), (1, .int 3), (2, .int x3)]) kc_92_15 rfl rfl rfl rfl rfl A172 (Nat.le_of_ble_eq_true rfl) (hJ _ _ _ _ (by decide)) (xm_le ml_93 rfl) rfl ?_
                refine xi_iload_n (pc' := 1) (x := 3) kc_93_0 rfl rfl ?_
                refine xi_iff (pc' := 4) kc_93_1 rfl rfl ?_
                refine xi_iload_n (pc' := 5) (x := 3) kc_93_4 rfl rfl ?_
                refine xi_iconst (pc' := 6) (v := 5) kc_93_5 rfl rfl ?_
                refine xi_cmt (pc' := 11) kc_93_6 rfl rfl ?_
                refine xi_aload_n (pc' := 12) (x := pt169) kc_93_11 rfl rfl ?_
                refine xi_getfield (pc' := 15) (v := .ref pt170) kc_93_12 rfl rfl rfl A172 rfl ?_
                refine xi_iload_n (pc' := 16) (x := 3) kc_93_15 rfl rfl ?_
                refine xcps4 (xk_arr K163.1 (xGD_room0 mpt170)) (fun y173 A173 hy173 ry173 => ?_)
                refine xcps4 (xj_get hy173 ry173 (i := 3) (by decide) (by decide)) (fun v174 ev174 bv174 dv174 => ?_)
                refine xi_iaload (pc' := 17) (v := v174) kc_93_16 rfl A173 (xk_lo mpt170 rfl) rfl (xi_in (by decide) (by rw [hy173]; decide)) ev174 ?_
                refine xi_istore_n (pc' := 18) (lv' := [(3, .int v174), (0, .ref pt169), (1, .int 3), (2, .int x3)]) kc_93_17 rfl rfl (xm_lt ml_93 rfl) ?_
                refine xi_aload_n (pc' := 19) (x := pt169) kc_93_18 rfl rfl ?_
                refine xi_getfield (pc' := 22) (v := .ref pt170) kc_93_19 rfl rfl rfl A172 rfl ?_
                refine xi_iload_n (pc' := 23) (x := 3) kc_93_22 rfl rfl ?_
                refine xi_iload_n (pc' := 24) (x := x3) kc_93_23 rfl rfl ?_
                refine xcps4 (xj_set (v := x3) hy173 ry173 3 (by first | omega | decide) (by first | omega | decide)) (fun y175 s175 hy175 ry175 => ?_)
                refine xi_iastore (pc' := 25) (x' := y175) kc_93_24 rfl A173 rfl (xi_in (by decide) (by rw [hy173]; decide)) s175 (fun hh175 eh175 => ?_)
                have K176 := xk_pa K163 (xk_ga mpt170 rfl) (xGD_room0 mpt170) hy175 ry175 eh175
                refine xi_iload_n (pc' := 26) (x := v174) kc_93_25 rfl rfl ?_
                refine xi_ireturn kc_93_26 mr_93 rfl ?_
                show xw J ov (d + 1) 92 (18, [(0, .ref 1), (1, .int x1), (2, .int 3), (3, .int x3)], [.int v174], hh175) _
                refine xi_goto (pc' := 22) kc_92_18 rfl ?_
                refine xi_ireturn kc_92_22 mr_92 rfl ?_
                show xw J ov (d + 2) 88 (107, [(0, .ref 0), (1, .int x1), (2, .int 3), (3, .int x3)], [.int v174], hh175) _
                refine xi_ireturn kc_88_107 mr_88 rfl ?_
                exact kk v174 hh175 K176
              · refine xi_cmf (pc' := 54) kc_88_51 rfl (xc_le_f (X := x3.toInt) (Y := 50) rfl (by decide) (by omega)) ?_
                refine xi_aload_n (pc' := 55) (x := 0) kc_88_54 rfl rfl ?_
                refine xi_bipush (pc' := 57) (v := (-6)) kc_88_55 rfl rfl ?_
                refine xp_0 K.1 (fun u177 u178 bu177 bu178 A179 => ?_)
                refine xi_virtual (mj := 90) (as := [.int (-6)]) (st1 := []) (lv0 := [(0, .ref 0), (1, .int (-6))]) kc_88_57 rfl rfl rfl rfl rfl A179 (Nat.le_of_ble_eq_true rfl) (hJ _ _ _ _ (by decide)) (xm_le ml_90 rfl) rfl ?_
                refine xi_iload_n (pc' := 1) (x := (-6)) kc_90_0 rfl rfl ?_
                refine xi_ineg (pc' := 2) (v := 6) kc_90_1 rfl rfl ?_
                refine xi_istore_n (pc' := 3) (lv' := [(2, .int 6), (0, .ref 0), (1, .int (-6))]) kc_90_2 rfl rfl (xm_lt ml_90 rfl) ?_
                refine xi_iload_n (pc' := 4) (x := 6) kc_90_3 rfl rfl ?_
                refine xi_iff (pc' := 7) kc_90_4 rfl rfl ?_
                refine xi_iload_n (pc' := 8) (x := 6) kc_90_7 rfl rfl ?_
                refine xi_aload_n (pc' := 9) (x := 0) kc_90_8 rfl rfl ?_
                refine xi_getfield (pc' := 12) (v := .ref 94) kc_90_9 rfl rfl rfl A179 rfl ?_
                refine xcps4 (xk_arr K.1 xD_94) (fun y180 A180 hy180 ry180 => ?_)
                refine xi_arraylength (pc' := 13) (n := 7) (v := 7) kc_90_12 rfl (xl_lenI (by decide) (by decide) A180 hy180) rfl ?_
                refine xi_cmf (pc' := 16) kc_90_13 rfl rfl ?_
                refine xi_aload_n (pc' := 17) (x := 0) kc_90_16 rfl rfl ?_
                refine xi_getfield (pc' := 20) (v := .ref 94) kc_90_17 rfl rfl rfl A179 rfl ?_
                refine xi_iload_n (pc' := 21) (x := 6) kc_90_20 rfl rfl ?_
                refine xi_dup2 (pc' := 22) kc_90_21 rfl ⟨rfl, rfl⟩ ?_
                refine xcps4 (xj_get hy180 ry180 (i := 6) (by decide) (by decide)) (fun v181 ev181 bv181 dv181 => ?_)
                refine xi_iaload (pc' := 23) (v := v181) kc_90_22 rfl A180 (by decide) rfl (xi_in (by decide) (by rw [hy180]; decide)) ev181 ?_
                refine xi_iconst (pc' := 24) (v := 1) kc_90_23 rfl rfl ?_
                refine xcps2 (α := Int32) ((v181 : Int32) + 1) (fun v182 ev182 => ?_)
                have rv182 := xc_rng v182
                refine xi_iadd (pc' := 25) (v := v182) kc_90_24 rfl ev182 ?_
                refine xcps4 (xj_set (v := v182) hy180 ry180 6 (by first | omega | decide) (by first | omega | decide)) (fun y183 s183 hy183 ry183 => ?_)
                refine xi_iastore (pc' := 26) (x' := y183) kc_90_25 rfl A180 rfl (xi_in (by decide) (by rw [hy180]; decide)) s183 (fun hh183 eh183 => ?_)
                have K184 := xk_pa K (xk_wa rfl) xD_94 hy183 ry183 eh183
                refine xi_iload_n (pc' := 27) (x := (-6)) kc_90_26 rfl rfl ?_
                refine xi_ireturn kc_90_27 mr_90 rfl ?_
                show xw J ov (d + 2) 88 (60, [(0, .ref 0), (1, .int x1), (2, .int 3), (3, .int x3)], [.int (-6)], hh183) _
                refine xi_ireturn kc_88_60 mr_88 rfl ?_
                have zcm6 : ((-6) : Int32).toInt = (-6) := by decide
                exact kk (-6) hh183 K184
            · refine xi_cmf (pc' := 38) kc_88_35 rfl (xc_ge_f (X := x3.toInt) (Y := 0) rfl (by decide) (by omega)) ?_
              refine xi_aload_n (pc' := 39) (x := 0) kc_88_38 rfl rfl ?_
              refine xi_bipush (pc' := 41) (v := (-4)) kc_88_39 rfl rfl ?_
              refine xp_0 K.1 (fun u185 u186 bu185 bu186 A187 => ?_)
              refine xi_virtual (mj := 90) (as := [.int (-4)]) (st1 := []) (lv0 := [(0, .ref 0), (1, .int (-4))]) kc_88_41 rfl rfl rfl rfl rfl A187 (Nat.le_of_ble_eq_true rfl) (hJ _ _ _ _ (by decide)) (xm_le ml_90 rfl) rfl ?_
              refine xi_iload_n (pc' := 1) (x := (-4)) kc_90_0 rfl rfl ?_
              refine xi_ineg (pc' := 2) (v := 4) kc_90_1 rfl rfl ?_
              refine xi_istore_n (pc' := 3) (lv' := [(2, .int 4), (0, .ref 0), (1, .int (-4))]) kc_90_2 rfl rfl (xm_lt ml_90 rfl) ?_
              refine xi_iload_n (pc' := 4) (x := 4) kc_90_3 rfl rfl ?_
              refine xi_iff (pc' := 7) kc_90_4 rfl rfl ?_
              refine xi_iload_n (pc' := 8) (x := 4) kc_90_7 rfl rfl ?_
              refine xi_aload_n (pc' := 9) (x := 0) kc_90_8 rfl rfl ?_
              refine xi_getfield (pc' := 12) (v := .ref 94) kc_90_9 rfl rfl rfl A187 rfl ?_
              refine xcps4 (xk_arr K.1 xD_94) (fun y188 A188 hy188 ry188 => ?_)
              refine xi_arraylength (pc' := 13) (n := 7) (v := 7) kc_90_12 rfl (xl_lenI (by decide) (by decide) A188 hy188) rfl ?_
              refine xi_cmf (pc' := 16) kc_90_13 rfl rfl ?_
              refine xi_aload_n (pc' := 17) (x := 0) kc_90_16 rfl rfl ?_
              refine xi_getfield (pc' := 20) (v := .ref 94) kc_90_17 rfl rfl rfl A187 rfl ?_
              refine xi_iload_n (pc' := 21) (x := 4) kc_90_20 rfl rfl ?_
              refine xi_dup2 (pc' := 22) kc_90_21 rfl ⟨rfl, rfl⟩ ?_
              refine xcps4 (xj_get hy188 ry188 (i := 4) (by decide) (by decide)) (fun v189 ev189 bv189 dv189 => ?_)
              refine xi_iaload (pc' := 23) (v := v189) kc_90_22 rfl A188 (by decide) rfl (xi_in (by decide) (by rw [hy188]; decide)) ev189 ?_
              refine xi_iconst (pc' := 24) (v := 1) kc_90_23 rfl rfl ?_
              refine xcps2 (α := Int32) ((v189 : Int32) + 1) (fun v190 ev190 => ?_)
              have rv190 := xc_rng v190
              refine xi_iadd (pc' := 25) (v := v190) kc_90_24 rfl ev190 ?_
              refine xcps4 (xj_set (v := v190) hy188 ry188 4 (by first | omega | decide) (by first | omega | decide)) (fun y191 s191 hy191 ry191 => ?_)
              refine xi_iastore (pc' := 26) (x' := y191) kc_90_25 rfl A188 rfl (xi_in (by decide) (by rw [hy188]; decide)) s191 (fun hh191 eh191 => ?_)
              have K192 := xk_pa K (xk_wa rfl) xD_94 hy191 ry191 eh191
              refine xi_iload_n (pc' := 27) (x := (-4)) kc_90_26 rfl rfl ?_
              refine xi_ireturn kc_90_27 mr_90 rfl ?_
              show xw J ov (d + 2) 88 (44, [(0, .ref 0), (1, .int x1), (2, .int 3), (3, .int x3)], [.int (-4)], hh191) _
              refine xi_ireturn kc_88_44 mr_88 rfl ?_
              have zcm4 : ((-4) : Int32).toInt = (-4) := by decide
              exact kk (-4) hh191 K192
          by_cases c193 : x2.toInt = 4
          · have qx2 : x2 = 4 := xc_of (Eq.trans (by omega) (show (4 : Int) = (4 : Int32).toInt by decide))
            subst qx2
            refine xi_ialoadO (pc' := 35) (v := 0) kc_88_34 rfl (by decide) hov1 (xi_in (n := 6) (by decide) (by decide)) rfl ?_
            by_cases c194 : 0 ≤ x3.toInt
            · refine xi_cmt (pc' := 45) kc_88_35 rfl (xc_ge_t (X := x3.toInt) (Y := 0) rfl (by decide) (by omega)) ?_
              refine xi_iload_n (pc' := 46) (x := x3) kc_88_45 rfl rfl ?_
              refine xi_getstatic (pc' := 49) (j := 1000002) kc_88_46 rfl rfl ?_
              refine xi_iload_n (pc' := 50) (x := 4) kc_88_49 rfl rfl ?_
              refine xi_ialoadO (pc' := 51) (v := 1) kc_88_50 rfl (by decide) hov2 (xi_in (n := 6) (by decide) (by decide)) rfl ?_
              by_cases c195 : x3.toInt ≤ 1
              · refine xi_cmt (pc' := 61) kc_88_51 rfl (xc_le_t (X := x3.toInt) (Y := 1) rfl (by decide) (by omega)) ?_
                refine xi_iload_n (pc' := 62) (x := 4) kc_88_61 rfl rfl ?_
                refine xi_iconst (pc' := 63) (v := 5) kc_88_62 rfl rfl ?_
                refine xi_cmt (pc' := 90) kc_88_63 rfl rfl ?_
                refine xi_aload_n (pc' := 91) (x := 0) kc_88_90 rfl rfl ?_
                refine xp_0 K.1 (fun u196 u197 bu196 bu197 A198 => ?_)
                refine xi_getfield (pc' := 94) (v := .ref 66) kc_88_91 rfl rfl rfl A198 rfl ?_
                refine xp_66 K.1 (fun u200 wl199 bu200 A201 => ?_)
                refine xi_virtual (mj := 91) (as := []) (st1 := []) (lv0 := [(0, .ref 66)]) kc_88_94 rfl rfl rfl rfl rfl A201 (Nat.le_of_ble_eq_true rfl) (hJ _ _ _ _ (by decide)) (xm_le ml_91 rfl) rfl ?_
                refine xi_aload_n (pc' := 1) (x := 66) kc_91_0 rfl rfl ?_
                refine xi_lconst (pc' := 2) (v := 0) kc_91_1 rfl rfl ?_
                refine xi_putfield (pc' := 5) (fs' := [.ref 1, .ref 67, .ref 70, .ref 71, .ref 72, .ref 73, .ref 74, .long 0, .int u200]) kc_91_2 rfl rfl rfl A201 rfl rfl rfl (Nat.le_of_ble_eq_true rfl) rfl (fun hh203 eh202 => ?_)
                have K204 := xk_pl (k := 7) (v := 0) K (xk_wf rfl) xD_66 A201 rfl eh202 rfl
                refine xi_return kc_91_5 mr_91 ?_
                show xw J ov (d + 2) 88 (97, [(0, .ref 0), (1, .int x1), (2, .int 4), (3, .int x3)], [], hh203) _
                refine xi_aload_n (pc' := 98) (x := 0) kc_88_97 rfl rfl ?_
                have A205 := ((eh202.2.1 0 (by decide)).trans A198)
                refine xi_getfield (pc' := 101) (v := .ref 1) kc_88_98 rfl rfl rfl A205 rfl ?_
                refine xi_iload_n (pc' := 102) (x := x1) kc_88_101 rfl rfl ?_
                refine xi_iload_n (pc' := 103) (x := 4) kc_88_102 rfl rfl ?_
                refine xi_iload_n (pc' := 104) (x := x3) kc_88_103 rfl rfl ?_
                refine xp_1 K204.1 (fun u206 u207 bu206 bu207 A208 => ?_)
                refine xi_virtual (mj := 92) (as := [.int x1, .int 4, .int x3]) (st1 := []) (lv0 := [(0, .ref 1), (1, .int x1), (2, .int 4), (3, .int x3)]) kc_88_104 rfl rfl rfl rfl rfl A208 (Nat.le_of_ble_eq_true rfl) (hJ _ _ _ _ (by decide)) (xm_le ml_92 rfl) rfl ?_
                refine xi_iload_n (pc' := 1) (x := x1) kc_92_0 rfl rfl ?_
                refine xi_static (mj := 89) (as := [.int x1]) (st1 := []) (lv0 := [(0, .int x1)]) kc_92_1 rfl rfl (Nat.le_of_ble_eq_true rfl) rfl rfl (Nat.le_of_ble_eq_true rfl) (hJ _ _ _ _ (by decide)) (xm_le ml_89 rfl) rfl ?_
                refine xi_iload_n (pc' := 1) (x := x1) kc_89_0 rfl rfl ?_
                refine xi_iff (pc' := 4) kc_89_1 rfl (xc_lt_f (X := x1.toInt) (Y := 0) rfl (by decide) (by omega)) ?_
                refine xi_iload_n (pc' := 5) (x := x1) kc_89_4 rfl rfl ?_
                refine xi_bipush (pc' := 7) (v := 6) kc_89_5 rfl rfl ?_
                refine xi_cmf (pc' := 10) kc_89_7 rfl (xc_ge_f (X := x1.toInt) (Y := 6) rfl (by decide) (by omega)) ?_
                refine xi_iconst (pc' := 11) (v := 1) kc_89_10 rfl rfl ?_
                refine xi_goto (pc' := 15) kc_89_11 rfl ?_
                refine xi_ireturn kc_89_15 mr_89 rfl ?_
                show xw J ov (d + 1) 92 (4, [(0, .ref 1), (1, .int x1), (2, .int 4), (3, .int x3)], [.int 1], hh203) _
                refine xi_iff (pc' := 7) kc_92_4 rfl rfl ?_
                refine xi_aload_n (pc' := 8) (x := 1) kc_92_7 rfl rfl ?_
                refine xi_getfield (pc' := 11) (v := .ref 2) kc_92_8 rfl rfl rfl A208 rfl ?_
                refine xi_iload_n (pc' := 12) (x := x1) kc_92_11 rfl rfl ?_
                have A209 := xk_ex K204.1 xD_2
                obtain ⟨pt210, ept210, mpt210⟩ := xR_2 (i := x1) (by omega) (by omega)
                refine xj_aaload (pc' := 13) (b := pt210) kc_92_12 rfl A209 rfl (xi_in (n := 6) (by omega) (by omega)) ept210 ?_
                refine xi_iload_n (pc' := 14) (x := 4) kc_92_13 rfl rfl ?_
                refine xi_iload_n (pc' := 15) (x := x3) kc_92_14 rfl rfl ?_
                obtain ⟨pt211, pt212, mpt211, mpt212, A213⟩ := xg_room K204.1 mpt210
                refine xi_virtual (mj := 93) (as := [.int 4, .int x3]) (st1 := []) (lv0 := [(0, .ref pt210), (1, .int 4), (2, .int x3)]) kc_92_15 rfl rfl rfl rfl rfl A213 (Nat.le_of_ble_eq_true rfl) (hJ _ _ _ _ (by decide)) (xm_le ml_93 rfl) rfl ?_
                refine xi_iload_n (pc' := 1) (x := 4) kc_93_0 rfl rfl ?_
                refine xi_iff (pc' := 4) kc_93_1 rfl rfl ?_
                refine xi_iload_n (pc' := 5) (x := 4) kc_93_4 rfl rfl ?_
                refine xi_iconst (pc' := 6) (v := 5) kc_93_5 rfl rfl ?_
                refine xi_cmt (pc' := 11) kc_93_6 rfl rfl ?_
                refine xi_aload_n (pc' := 12) (x := pt210) kc_93_11 rfl rfl ?_
                refine xi_getfield (pc' := 15) (v := .ref pt211) kc_93_12 rfl rfl rfl A213 rfl ?_
                refine xi_iload_n (pc' := 16) (x := 4) kc_93_15 rfl rfl ?_
                refine xcps4 (xk_arr K204.1 (xGD_room0 mpt211)) (fun y214 A214 hy214 ry214 => ?_)
                refine xcps4 (xj_get hy214 ry214 (i := 4) (by decide) (by decide)) (fun v215 ev215 bv215 dv215 => ?_)
                refine xi_iaload (pc' := 17) (v := v215) kc_93_16 rfl A214 (xk_lo mpt211 rfl) rfl (xi_in (by decide) (by rw [hy214]; decide)) ev215 ?_
                refine xi_istore_n (pc' := 18) (lv' := [(3, .int v215), (0, .ref pt210), (1, .int 4), (2, .int x3)]) kc_93_17 rfl rfl (xm_lt ml_93 rfl) ?_
                refine xi_aload_n (pc' := 19) (x := pt210) kc_93_18 rfl rfl ?_
                refine xi_getfield (pc' := 22) (v := .ref pt211) kc_93_19 rfl rfl rfl A213 rfl ?_
                refine xi_iload_n (pc' := 23) (x := 4) kc_93_22 rfl rfl ?_
                refine xi_iload_n (pc' := 24) (x := x3) kc_93_23 rfl rfl ?_
                refine xcps4 (xj_set (v := x3) hy214 ry214 4 (by first | omega | decide) (by first | omega | decide)) (fun y216 s216 hy216 ry216 => ?_)
                refine xi_iastore (pc' := 25) (x' := y216) kc_93_24 rfl A214 rfl (xi_in (by decide) (by rw [hy214]; decide)) s216 (fun hh216 eh216 => ?_)
                have K217 := xk_pa K204 (xk_ga mpt211 rfl) (xGD_room0 mpt211) hy216 ry216 eh216
                refine xi_iload_n (pc' := 26) (x := v215) kc_93_25 rfl rfl ?_
                refine xi_ireturn kc_93_26 mr_93 rfl ?_
                show xw J ov (d + 1) 92 (18, [(0, .ref 1), (1, .int x1), (2, .int 4), (3, .int x3)], [.int v215], hh216) _
                refine xi_goto (pc' := 22) kc_92_18 rfl ?_
                refine xi_ireturn kc_92_22 mr_92 rfl ?_
                show xw J ov (d + 2) 88 (107, [(0, .ref 0), (1, .int x1), (2, .int 4), (3, .int x3)], [.int v215], hh216) _
                refine xi_ireturn kc_88_107 mr_88 rfl ?_
                exact kk v215 hh216 K217
              · refine xi_cmf (pc' := 54) kc_88_51 rfl (xc_le_f (X := x3.toInt) (Y := 1) rfl (by decide) (by omega)) ?_
                refine xi_aload_n (pc' := 55) (x := 0) kc_88_54 rfl rfl ?_
                refine xi_bipush (pc' := 57) (v := (-6)) kc_88_55 rfl rfl ?_
                refine xp_0 K.1 (fun u218 u219 bu218 bu219 A220 => ?_)
                refine xi_virtual (mj := 90) (as := [.int (-6)]) (st1 := []) (lv0 := [(0, .ref 0), (1, .int (-6))]) kc_88_57 rfl rfl rfl rfl rfl A220 (Nat.le_of_ble_eq_true rfl) (hJ _ _ _ _ (by decide)) (xm_le ml_90 rfl) rfl ?_
                refine xi_iload_n (pc' := 1) (x := (-6)) kc_90_0 rfl rfl ?_
                refine xi_ineg (pc' := 2) (v := 6) kc_90_1 rfl rfl ?_
                refine xi_istore_n (pc' := 3) (lv' := [(2, .int 6), (0, .ref 0), (1, .int (-6))]) kc_90_2 rfl rfl (xm_lt ml_90 rfl) ?_
                refine xi_iload_n (pc' := 4) (x := 6) kc_90_3 rfl rfl ?_
                refine xi_iff (pc' := 7) kc_90_4 rfl rfl ?_
                refine xi_iload_n (pc' := 8) (x := 6) kc_90_7 rfl rfl ?_
                refine xi_aload_n (pc' := 9) (x := 0) kc_90_8 rfl rfl ?_
                refine xi_getfield (pc' := 12) (v := .ref 94) kc_90_9 rfl rfl rfl A220 rfl ?_
                refine xcps4 (xk_arr K.1 xD_94) (fun y221 A221 hy221 ry221 => ?_)
                refine xi_arraylength (pc' := 13) (n := 7) (v := 7) kc_90_12 rfl (xl_lenI (by decide) (by decide) A221 hy221) rfl ?_
                refine xi_cmf (pc' := 16) kc_90_13 rfl rfl ?_
                refine xi_aload_n (pc' := 17) (x := 0) kc_90_16 rfl rfl ?_
                refine xi_getfield (pc' := 20) (v := .ref 94) kc_90_17 rfl rfl rfl A220 rfl ?_
                refine xi_iload_n (pc' := 21) (x := 6) kc_90_20 rfl rfl ?_
                refine xi_dup2 (pc' := 22) kc_90_21 rfl ⟨rfl, rfl⟩ ?_
                refine xcps4 (xj_get hy221 ry221 (i := 6) (by decide) (by decide)) (fun v222 ev222 bv222 dv222 => ?_)
                refine xi_iaload (pc' := 23) (v := v222) kc_90_22 rfl A221 (by decide) rfl (xi_in (by decide) (by rw [hy221]; decide)) ev222 ?_
                refine xi_iconst (pc' := 24) (v := 1) kc_90_23 rfl rfl ?_
                refine xcps2 (α := Int32) ((v222 : Int32) + 1) (fun v223 ev223 => ?_)
                have rv223 := xc_rng v223
                refine xi_iadd (pc' := 25) (v := v223) kc_90_24 rfl ev223 ?_
                refine xcps4 (xj_set (v := v223) hy221 ry221 6 (by first | omega | decide) (by first | omega | decide)) (fun y224 s224 hy224 ry224 => ?_)
                refine xi_iastore (pc' := 26) (x' := y224) kc_90_25 rfl A221 rfl (xi_in (by decide) (by rw [hy221]; decide)) s224 (fun hh224 eh224 => ?_)
                have K225 := xk_pa K (xk_wa rfl) xD_94 hy224 ry224 eh224
                refine xi_iload_n (pc' := 27) (x := (-6)) kc_90_26 rfl rfl ?_
                refine xi_ireturn kc_90_27 mr_90 rfl ?_
                show xw J ov (d + 2) 88 (60, [(0, .ref 0), (1, .int x1), (2, .int 4), (3, .int x3)], [.int (-6)], hh224) _
                refine xi_ireturn kc_88_60 mr_88 rfl ?_
                have zcm6 : ((-6) : Int32).toInt = (-6) := by decide
                exact kk (-6) hh224 K225
            · refine xi_cmf (pc' := 38) kc_88_35 rfl (xc_ge_f (X := x3.toInt) (Y := 0) rfl (by decide) (by omega)) ?_
              refine xi_aload_n (pc' := 39) (x := 0) kc_88_38 rfl rfl ?_
              refine xi_bipush (pc' := 41) (v := (-4)) kc_88_39 rfl rfl ?_
              refine xp_0 K.1 (fun u226 u227 bu226 bu227 A228 => ?_)
              refine xi_virtual (mj := 90) (as := [.int (-4)]) (st1 := []) (lv0 := [(0, .ref 0), (1, .int (-4))]) kc_88_41 rfl rfl rfl rfl rfl A228 (Nat.le_of_ble_eq_true rfl) (hJ _ _ _ _ (by decide)) (xm_le ml_90 rfl) rfl ?_
              refine xi_iload_n (pc' := 1) (x := (-4)) kc_90_0 rfl rfl ?_
              refine xi_ineg (pc' := 2) (v := 4) kc_90_1 rfl rfl ?_
              refine xi_istore_n (pc' := 3) (lv' := [(2, .int 4), (0, .ref 0), (1, .int (-4))]) kc_90_2 rfl rfl (xm_lt ml_90 rfl) ?_
              refine xi_iload_n (pc' := 4) (x := 4) kc_90_3 rfl rfl ?_
              refine xi_iff (pc' := 7) kc_90_4 rfl rfl ?_
              refine xi_iload_n (pc' := 8) (x := 4) kc_90_7 rfl rfl ?_
              refine xi_aload_n (pc' := 9) (x := 0) kc_90_8 rfl rfl ?_
              refine xi_getfield (pc' := 12) (v := .ref 94) kc_90_9 rfl rfl rfl A228 rfl ?_
              refine xcps4 (xk_arr K.1 xD_94) (fun y229 A229 hy229 ry229 => ?_)
              refine xi_arraylength (pc' := 13) (n := 7) (v := 7) kc_90_12 rfl (xl_lenI (by decide) (by decide) A229 hy229) rfl ?_
              refine xi_cmf (pc' := 16) kc_90_13 rfl rfl ?_
              refine xi_aload_n (pc' := 17) (x := 0) kc_90_16 rfl rfl ?_
              refine xi_getfield (pc' := 20) (v := .ref 94) kc_90_17 rfl rfl rfl A228 rfl ?_
              refine xi_iload_n (pc' := 21) (x := 4) kc_90_20 rfl rfl ?_
              refine xi_dup2 (pc' := 22) kc_90_21 rfl ⟨rfl, rfl⟩ ?_
              refine xcps4 (xj_get hy229 ry229 (i := 4) (by decide) (by decide)) (fun v230 ev230 bv230 dv230 => ?_)
              refine xi_iaload (pc' := 23) (v := v230) kc_90_22 rfl A229 (by decide) rfl (xi_in (by decide) (by rw [hy229]; decide)) ev230 ?_
              refine xi_iconst (pc' := 24) (v := 1) kc_90_23 rfl rfl ?_
              refine xcps2 (α := Int32) ((v230 : Int32) + 1) (fun v231 ev231 => ?_)
              have rv231 := xc_rng v231
              refine xi_iadd (pc' := 25) (v := v231) kc_90_24 rfl ev231 ?_
              refine xcps4 (xj_set (v := v231) hy229 ry229 4 (by first | omega | decide) (by first | omega | decide)) (fun y232 s232 hy232 ry232 => ?_)
              refine xi_iastore (pc' := 26) (x' := y232) kc_90_25 rfl A229 rfl (xi_in (by decide) (by rw [hy229]; decide)) s232 (fun hh232 eh232 => ?_)
              have K233 := xk_pa K (xk_wa rfl) xD_94 hy232 ry232 eh232
              refine xi_iload_n (pc' := 27) (x := (-4)) kc_90_26 rfl rfl ?_
              refine xi_ireturn kc_90_27 mr_90 rfl ?_
              show xw J ov (d + 2) 88 (44, [(0, .ref 0), (1, .int x1), (2, .int 4), (3, .int x3)], [.int (-4)], hh232) _
              refine xi_ireturn kc_88_44 mr_88 rfl ?_
              have zcm4 : ((-4) : Int32).toInt = (-4) := by decide
              exact kk (-4) hh232 K233
          have qx2 : x2 = 5 := xc_of (Eq.trans (by omega) (show (5 : Int) = (5 : Int32).toInt by decide))
          subst qx2
          refine xi_ialoadO (pc' := 35) (v := 0) kc_88_34 rfl (by decide) hov1 (xi_in (n := 6) (by decide) (by decide)) rfl ?_
          by_cases c234 : 0 ≤ x3.toInt
          · refine xi_cmt (pc' := 45) kc_88_35 rfl (xc_ge_t (X := x3.toInt) (Y := 0) rfl (by decide) (by omega)) ?_
            refine xi_iload_n (pc' := 46) (x := x3) kc_88_45 rfl rfl ?_
            refine xi_getstatic (pc' := 49) (j := 1000002) kc_88_46 rfl rfl ?_
            refine xi_iload_n (pc' := 50) (x := 5) kc_88_49 rfl rfl ?_
            refine xi_ialoadO (pc' := 51) (v := 99999) kc_88_50 rfl (by decide) hov2 (xi_in (n := 6) (by decide) (by decide)) rfl ?_
            by_cases c235 : x3.toInt ≤ 99999
            · refine xi_cmt (pc' := 61) kc_88_51 rfl (xc_le_t (X := x3.toInt) (Y := 99999) rfl (by decide) (by omega)) ?_
              refine xi_iload_n (pc' := 62) (x := 5) kc_88_61 rfl rfl ?_
              refine xi_iconst (pc' := 63) (v := 5) kc_88_62 rfl rfl ?_
              refine xi_cmf (pc' := 66) kc_88_63 rfl rfl ?_
              refine xi_aload_n (pc' := 67) (x := 0) kc_88_66 rfl rfl ?_
              refine xp_0 K.1 (fun u236 u237 bu236 bu237 A238 => ?_)
              refine xi_getfield (pc' := 70) (v := .ref 63) kc_88_67 rfl rfl rfl A238 rfl ?_
              refine xp_63 K.1 (fun u239 u240 bu239 bu240 A241 => ?_)
              refine xi_getfield (pc' := 73) (v := .ref 64) kc_88_70 rfl rfl rfl A241 rfl ?_
              refine xi_iload_n (pc' := 74) (x := x1) kc_88_73 rfl rfl ?_
              refine xcps4 (xk_arr K.1 xD_64) (fun y242 A242 hy242 ry242 => ?_)
              refine xcps4 (xj_get hy242 ry242 (i := x1) (by omega) (by omega)) (fun v243 ev243 bv243 dv243 => ?_)
              refine xi_iaload (pc' := 75) (v := v243) kc_88_74 rfl A242 (by decide) rfl (xi_in (by omega) (by rw [hy242]; omega)) ev243 ?_
              refine xi_istore (pc' := 77) (lv' := [(4, .int v243), (0, .ref 0), (1, .int x1), (2, .int 5), (3, .int x3)]) kc_88_75 rfl rfl (xm_lt ml_88 rfl) ?_
              refine xi_aload_n (pc' := 78) (x := 0) kc_88_77 rfl rfl ?_
              refine xi_getfield (pc' := 81) (v := .ref 63) kc_88_78 rfl rfl rfl A238 rfl ?_
              refine xi_getfield (pc' := 84) (v := .ref 64) kc_88_81 rfl rfl rfl A241 rfl ?_
              refine xi_iload_n (pc' := 85) (x := x1) kc_88_84 rfl rfl ?_
              refine xi_iload_n (pc' := 86) (x := x3) kc_88_85 rfl rfl ?_
              refine xcps4 (xj_set (v := x3) hy242 ry242 x1 (by first | omega | decide) (by first | omega | decide)) (fun y244 s244 hy244 ry244 => ?_)
              refine xi_iastore (pc' := 87) (x' := y244) kc_88_86 rfl A242 rfl (xi_in (by omega) (by rw [hy242]; omega)) s244 (fun hh244 eh244 => ?_)
              have K245 := xk_pa K (xk_wa rfl) xD_64 hy244 ry244 eh244
              refine xi_iload (pc' := 89) (x := v243) kc_88_87 rfl rfl ?_
              refine xi_ireturn kc_88_89 mr_88 rfl ?_
              exact kk v243 hh244 K245
            · refine xi_cmf (pc' := 54) kc_88_51 rfl (xc_le_f (X := x3.toInt) (Y := 99999) rfl (by decide) (by omega)) ?_
              refine xi_aload_n (pc' := 55) (x := 0) kc_88_54 rfl rfl ?_
              refine xi_bipush (pc' := 57) (v := (-6)) kc_88_55 rfl rfl ?_
              refine xp_0 K.1 (fun u246 u247 bu246 bu247 A248 => ?_)
              refine xi_virtual (mj := 90) (as := [.int (-6)]) (st1 := []) (lv0 := [(0, .ref 0), (1, .int (-6))]) kc_88_57 rfl rfl rfl rfl rfl A248 (Nat.le_of_ble_eq_true rfl) (hJ _ _ _ _ (by decide)) (xm_le ml_90 rfl) rfl ?_
              refine xi_iload_n (pc' := 1) (x := (-6)) kc_90_0 rfl rfl ?_
              refine xi_ineg (pc' := 2) (v := 6) kc_90_1 rfl rfl ?_
              refine xi_istore_n (pc' := 3) (lv' := [(2, .int 6), (0, .ref 0), (1, .int (-6))]) kc_90_2 rfl rfl (xm_lt ml_90 rfl) ?_
              refine xi_iload_n (pc' := 4) (x := 6) kc_90_3 rfl rfl ?_
              refine xi_iff (pc' := 7) kc_90_4 rfl rfl ?_
              refine xi_iload_n (pc' := 8) (x := 6) kc_90_7 rfl rfl ?_
              refine xi_aload_n (pc' := 9) (x := 0) kc_90_8 rfl rfl ?_
              refine xi_getfield (pc' := 12) (v := .ref 94) kc_90_9 rfl rfl rfl A248 rfl ?_
              refine xcps4 (xk_arr K.1 xD_94) (fun y249 A249 hy249 ry249 => ?_)
              refine xi_arraylength (pc' := 13) (n := 7) (v := 7) kc_90_12 rfl (xl_lenI (by decide) (by decide) A249 hy249) rfl ?_
              refine xi_cmf (pc' := 16) kc_90_13 rfl rfl ?_
              refine xi_aload_n (pc' := 17) (x := 0) kc_90_16 rfl rfl ?_
              refine xi_getfield (pc' := 20) (v := .ref 94) kc_90_17 rfl rfl rfl A248 rfl ?_
              refine xi_iload_n (pc' := 21) (x := 6) kc_90_20 rfl rfl ?_
              refine xi_dup2 (pc' := 22) kc_90_21 rfl ⟨rfl, rfl⟩ ?_
              refine xcps4 (xj_get hy249 ry249 (i := 6) (by decide) (by decide)) (fun v250 ev250 bv250 dv250 => ?_)
              refine xi_iaload (pc' := 23) (v := v250) kc_90_22 rfl A249 (by decide) rfl (xi_in (by decide) (by rw [hy249]; decide)) ev250 ?_
              refine xi_iconst (pc' := 24) (v := 1) kc_90_23 rfl rfl ?_
              refine xcps2 (α := Int32) ((v250 : Int32) + 1) (fun v251 ev251 => ?_)
              have rv251 := xc_rng v251
              refine xi_iadd (pc' := 25) (v := v251) kc_90_24 rfl ev251 ?_
              refine xcps4 (xj_set (v := v251) hy249 ry249 6 (by first | omega | decide) (by first | omega | decide)) (fun y252 s252 hy252 ry252 => ?_)
              refine xi_iastore (pc' := 26) (x' := y252) kc_90_25 rfl A249 rfl (xi_in (by decide) (by rw [hy249]; decide)) s252 (fun hh252 eh252 => ?_)
              have K253 := xk_pa K (xk_wa rfl) xD_94 hy252 ry252 eh252
              refine xi_iload_n (pc' := 27) (x := (-6)) kc_90_26 rfl rfl ?_
              refine xi_ireturn kc_90_27 mr_90 rfl ?_
              show xw J ov (d + 2) 88 (60, [(0, .ref 0), (1, .int x1), (2, .int 5), (3, .int x3)], [.int (-6)], hh252) _
              refine xi_ireturn kc_88_60 mr_88 rfl ?_
              have zcm6 : ((-6) : Int32).toInt = (-6) := by decide
              exact kk (-6) hh252 K253
          · refine xi_cmf (pc' := 38) kc_88_35 rfl (xc_ge_f (X := x3.toInt) (Y := 0) rfl (by decide) (by omega)) ?_
            refine xi_aload_n (pc' := 39) (x := 0) kc_88_38 rfl rfl ?_
            refine xi_bipush (pc' := 41) (v := (-4)) kc_88_39 rfl rfl ?_
            refine xp_0 K.1 (fun u254 u255 bu254 bu255 A256 => ?_)
            refine xi_virtual (mj := 90) (as := [.int (-4)]) (st1 := []) (lv0 := [(0, .ref 0), (1, .int (-4))]) kc_88_41 rfl rfl rfl rfl rfl A256 (Nat.le_of_ble_eq_true rfl) (hJ _ _ _ _ (by decide)) (xm_le ml_90 rfl) rfl ?_
            refine xi_iload_n (pc' := 1) (x := (-4)) kc_90_0 rfl rfl ?_
            refine xi_ineg (pc' := 2) (v := 4) kc_90_1 rfl rfl ?_
            refine xi_istore_n (pc' := 3) (lv' := [(2, .int 4), (0, .ref 0), (1, .int (-4))]) kc_90_2 rfl rfl (xm_lt ml_90 rfl) ?_
            refine xi_iload_n (pc' := 4) (x := 4) kc_90_3 rfl rfl ?_
            refine xi_iff (pc' := 7) kc_90_4 rfl rfl ?_
            refine xi_iload_n (pc' := 8) (x := 4) kc_90_7 rfl rfl ?_
            refine xi_aload_n (pc' := 9) (x := 0) kc_90_8 rfl rfl ?_
            refine xi_getfield (pc' := 12) (v := .ref 94) kc_90_9 rfl rfl rfl A256 rfl ?_
            refine xcps4 (xk_arr K.1 xD_94) (fun y257 A257 hy257 ry257 => ?_)
            refine xi_arraylength (pc' := 13) (n := 7) (v := 7) kc_90_12 rfl (xl_lenI (by decide) (by decide) A257 hy257) rfl ?_
            refine xi_cmf (pc' := 16) kc_90_13 rfl rfl ?_
            refine xi_aload_n (pc' := 17) (x := 0) kc_90_16 rfl rfl ?_
            refine xi_getfield (pc' := 20) (v := .ref 94) kc_90_17 rfl rfl rfl A256 rfl ?_
            refine xi_iload_n (pc' := 21) (x := 4) kc_90_20 rfl rfl ?_
            refine xi_dup2 (pc' := 22) kc_90_21 rfl ⟨rfl, rfl⟩ ?_
            refine xcps4 (xj_get hy257 ry257 (i := 4) (by decide) (by decide)) (fun v258 ev258 bv258 dv258 => ?_)
            refine xi_iaload (pc' := 23) (v := v258) kc_90_22 rfl A257 (by decide) rfl (xi_in (by decide) (by rw [hy257]; decide)) ev258 ?_
            refine xi_iconst (pc' := 24) (v := 1) kc_90_23 rfl rfl ?_
            refine xcps2 (α := Int32) ((v258 : Int32) + 1) (fun v259 ev259 => ?_)
            have rv259 := xc_rng v259
            refine xi_iadd (pc' := 25) (v := v259) kc_90_24 rfl ev259 ?_
            refine xcps4 (xj_set (v := v259) hy257 ry257 4 (by first | omega | decide) (by first | omega | decide)) (fun y260 s260 hy260 ry260 => ?_)
            refine xi_iastore (pc' := 26) (x' := y260) kc_90_25 rfl A257 rfl (xi_in (by decide) (by rw [hy257]; decide)) s260 (fun hh260 eh260 => ?_)
            have K261 := xk_pa K (xk_wa rfl) xD_94 hy260 ry260 eh260
            refine xi_iload_n (pc' := 27) (x := (-4)) kc_90_26 rfl rfl ?_
            refine xi_ireturn kc_90_27 mr_90 rfl ?_
            show xw J ov (d + 2) 88 (44, [(0, .ref 0), (1, .int x1), (2, .int 5), (3, .int x3)], [.int (-4)], hh260) _
            refine xi_ireturn kc_88_44 mr_88 rfl ?_
            have zcm4 : ((-4) : Int32).toInt = (-4) := by decide
            exact kk (-4) hh260 K261
        · refine xi_cmf (pc' := 22) kc_88_19 rfl (xc_le_f (X := x2.toInt) (Y := 5) rfl (by decide) (by omega)) ?_
          refine xi_aload_n (pc' := 23) (x := 0) kc_88_22 rfl rfl ?_
          refine xi_bipush (pc' := 25) (v := (-2)) kc_88_23 rfl rfl ?_
          refine xp_0 K.1 (fun u262 u263 bu262 bu263 A264 => ?_)
          refine xi_virtual (mj := 90) (as := [.int (-2)]) (st1 := []) (lv0 := [(0, .ref 0), (1, .int (-2))]) kc_88_25 rfl rfl rfl rfl rfl A264 (Nat.le_of_ble_eq_true rfl) (hJ _ _ _ _ (by decide)) (xm_le ml_90 rfl) rfl ?_
          refine xi_iload_n (pc' := 1) (x := (-2)) kc_90_0 rfl rfl ?_
          refine xi_ineg (pc' := 2) (v := 2) kc_90_1 rfl rfl ?_
          refine xi_istore_n (pc' := 3) (lv' := [(2, .int 2), (0, .ref 0), (1, .int (-2))]) kc_90_2 rfl rfl (xm_lt ml_90 rfl) ?_
          refine xi_iload_n (pc' := 4) (x := 2) kc_90_3 rfl rfl ?_
          refine xi_iff (pc' := 7) kc_90_4 rfl rfl ?_
          refine xi_iload_n (pc' := 8) (x := 2) kc_90_7 rfl rfl ?_
          refine xi_aload_n (pc' := 9) (x := 0) kc_90_8 rfl rfl ?_
          refine xi_getfield (pc' := 12) (v := .ref 94) kc_90_9 rfl rfl rfl A264 rfl ?_
          refine xcps4 (xk_arr K.1 xD_94) (fun y265 A265 hy265 ry265 => ?_)
          refine xi_arraylength (pc' := 13) (n := 7) (v := 7) kc_90_12 rfl (xl_lenI (by decide) (by decide) A265 hy265) rfl ?_
          refine xi_cmf (pc' := 16) kc_90_13 rfl rfl ?_
          refine xi_aload_n (pc' := 17) (x := 0) kc_90_16 rfl rfl ?_
          refine xi_getfield (pc' := 20) (v := .ref 94) kc_90_17 rfl rfl rfl A264 rfl ?_
          refine xi_iload_n (pc' := 21) (x := 2) kc_90_20 rfl rfl ?_
          refine xi_dup2 (pc' := 22) kc_90_21 rfl ⟨rfl, rfl⟩ ?_
          refine xcps4 (xj_get hy265 ry265 (i := 2) (by decide) (by decide)) (fun v266 ev266 bv266 dv266 => ?_)
          refine xi_iaload (pc' := 23) (v := v266) kc_90_22 rfl A265 (by decide) rfl (xi_in (by decide) (by rw [hy265]; decide)) ev266 ?_
          refine xi_iconst (pc' := 24) (v := 1) kc_90_23 rfl rfl ?_
          refine xcps2 (α := Int32) ((v266 : Int32) + 1) (fun v267 ev267 => ?_)
          have rv267 := xc_rng v267
          refine xi_iadd (pc' := 25) (v := v267) kc_90_24 rfl ev267 ?_
          refine xcps4 (xj_set (v := v267) hy265 ry265 2 (by first | omega | decide) (by first | omega | decide)) (fun y268 s268 hy268 ry268 => ?_)
          refine xi_iastore (pc' := 26) (x' := y268) kc_90_25 rfl A265 rfl (xi_in (by decide) (by rw [hy265]; decide)) s268 (fun hh268 eh268 => ?_)
          have K269 := xk_pa K (xk_wa rfl) xD_94 hy268 ry268 eh268
          refine xi_iload_n (pc' := 27) (x := (-2)) kc_90_26 rfl rfl ?_
          refine xi_ireturn kc_90_27 mr_90 rfl ?_
          show xw J ov (d + 2) 88 (28, [(0, .ref 0), (1, .int x1), (2, .int x2), (3, .int x3)], [.int (-2)], hh268) _
          refine xi_ireturn kc_88_28 mr_88 rfl ?_
          have zcm2 : ((-2) : Int32).toInt = (-2) := by decide
          exact kk (-2) hh268 K269
set_option maxHeartbeats 4000000 in
theorem mt_9_0 {J : xe_J} {ov : List (List Int32)} (hJ : ∀ d mj as h, mj ≠ xe_loff → J d mj as h = none) (hov1 : ov[1]? = some [10, 0, 0, 0, 0, 0]) (hov2 : ov[2]? = some [99, 30, 50, 50, 1, 99999]) {d : Nat} {Q : Option Value → xe_H → Prop} {h : xe_H} {x1 : Int32} {x2 : Int32} {x3 : Int32} (T : xt h) (kk : (∀ (r : Int32) (h' : xe_H), xk [(0, 9), (115, 1), (83, 0), (29, 0), (31, 0), (33, 0), (35, 0), (37, 0), (39, 0), (41, 0), (43, 0), (45, 0), (47, 0), (49, 0), (51, 0), (125, 0), (66, 8), (115, 18), (71, 0), (132, 0)] h h' → Q (some (.int r)) h')) : xw J ov (d + 2) 9 (0, [(0, .ref 115), (1, .int x1), (2, .int x2), (3, .int x3)], [], h) Q := by
  have K : xk [(0, 9), (115, 1), (83, 0), (29, 0), (31, 0), (33, 0), (35, 0), (37, 0), (39, 0), (41, 0), (43, 0), (45, 0), (47, 0), (49, 0), (51, 0), (125, 0), (66, 8), (115, 18), (71, 0), (132, 0)] h h := xk_re T
  have rx1 := xc_rng x1
  have rx2 := xc_rng x2
  have rx3 := xc_rng x3
  refine xi_aload_n (pc' := 1) (x := 115) kc_9_0 rfl rfl ?_
  refine xi_iconst (pc' := 2) (v := 0) kc_9_1 rfl rfl ?_
  refine xp_115 K.1 (fun u1 u2 u3 u4 u5 u6 u7 u8 u9 u10 u11 u12 u13 bu1 bu2 bu3 bu4 bu5 bu6 bu7 bu8 bu9 bu10 bu11 bu12 bu13 A14 => ?_)
  refine xi_putfield (pc' := 5) (fs' := [.int 0, .int u2, .ref 116, .ref 117, .ref 118, .ref 119, .ref 120, .ref 121, .ref 122, .ref 123, .ref 124, .ref 125, .ref 126, .ref 127, .ref 128, .ref 129, .int u3, .ref 130, .int u4, .ref 131, .ref 132, .ref 133, .ref 134, .int u5, .ref 135, .ref 136, .ref 137, .ref 138, .ref 139, .ref 140, .ref 141, .ref 142, .int u6, .int u7, .int u8, .ref 143, .ref 144, .ref 145, .ref 146, .ref 147, .ref 148, .int u9, .ref 149, .ref 150, .ref 151, .int u10, .ref 152, .ref 153, .ref 154, .ref 155, .ref 156, .ref 157, .ref 158, .ref 159, .int u11, .ref 160, .int u12, .ref 161, .ref 162, .ref 163, .ref 164, .int u13, .ref 165, .ref 166]) kc_9_2 rfl rfl rfl A14 rfl rfl rfl (Nat.le_of_ble_eq_true rfl) rfl (fun hh16 eh15 => ?_)
  have K17 := xk_pf (k := 0) (v := 0) K (xk_wf rfl) xD_115 A14 rfl (by first | omega | decide) (by first | omega | decide) eh15 rfl
  refine xi_iload_n (pc' := 6) (x := x1) kc_9_5 rfl rfl ?_
  refine xi_static (mj := 10) (as := [.int x1]) (st1 := []) (lv0 := [(0, .int x1)]) kc_9_6 rfl rfl (Nat.le_of_ble_eq_true rfl) rfl rfl (Nat.le_of_ble_eq_true rfl) (hJ _ _ _ _ (by decide)) (xm_le ml_10 rfl) rfl ?_
  refine xi_iload_n (pc' := 1) (x := x1) kc_10_0 rfl rfl ?_
  refine xi_iconst (pc' := 2) (v := 0) kc_10_1 rfl rfl ?_
  refine xi_iconst (pc' := 3) (v := 5) kc_10_2 rfl rfl ?_
  refine xi_static (mj := 11) (as := [.int x1, .int 0, .int 5]) (st1 := []) (lv0 := [(0, .int x1), (1, .int 0), (2, .int 5)]) kc_10_3 rfl rfl (Nat.le_of_ble_eq_true rfl) rfl rfl (Nat.le_of_ble_eq_true rfl) (hJ _ _ _ _ (by decide)) (xm_le ml_11 rfl) rfl ?_
  refine xi_iload_n (pc' := 1) (x := x1) kc_11_0 rfl rfl ?_
  refine xi_iload_n (pc' := 2) (x := 0) kc_11_1 rfl rfl ?_
  by_cases c18 : x1.toInt < 0
  · refine xi_cmt (pc' := 14) kc_11_2 rfl (xc_lt_t (X := x1.toInt) (Y := 0) rfl (by decide) (by omega)) ?_
    refine xi_iconst (pc' := 15) (v := 0) kc_11_14 rfl rfl ?_
    refine xi_ireturn kc_11_15 mr_11 rfl ?_
    show xw J ov (d + 1) 10 (6, [(0, .int x1)], [.int 0], hh16) _
    refine xi_ireturn kc_10_6 mr_10 rfl ?_
    show xw J ov (d + 2) 9 (9, [(0, .ref 115), (1, .int x1), (2, .int x2), (3, .int x3)], [.int 0], hh16) _
    refine xi_iff (pc' := 12) kc_9_9 rfl rfl ?_
    refine xi_aload_n (pc' := 13) (x := 115) kc_9_12 rfl rfl ?_
    refine xi_iconst (pc' := 14) (v := (-1)) kc_9_13 rfl rfl ?_
    refine xi_virtual (mj := 12) (as := [.int (-1)]) (st1 := []) (lv0 := [(0, .ref 115), (1, .int (-1))]) kc_9_14 rfl rfl rfl rfl rfl eh15.1 (Nat.le_of_ble_eq_true rfl) (hJ _ _ _ _ (by decide)) (xm_le ml_12 rfl) rfl ?_
    refine xi_aload_n (pc' := 1) (x := 115) kc_12_0 rfl rfl ?_
    refine xi_getfield (pc' := 4) (v := .ref 140) kc_12_1 rfl rfl rfl eh15.1 rfl ?_
    refine xi_iload_n (pc' := 5) (x := (-1)) kc_12_4 rfl rfl ?_
    refine xi_ineg (pc' := 6) (v := 1) kc_12_5 rfl rfl ?_
    refine xi_dup2 (pc' := 7) kc_12_6 rfl ⟨rfl, rfl⟩ ?_
    refine xcps4 (xk_arr K17.1 xD_140) (fun y19 A19 hy19 ry19 => ?_)
    refine xcps4 (xj_get hy19 ry19 (i := 1) (by decide) (by decide)) (fun v20 ev20 bv20 dv20 => ?_)
    refine xi_iaload (pc' := 8) (v := v20) kc_12_7 rfl A19 (by decide) rfl (xi_in (by decide) (by rw [hy19]; decide)) ev20 ?_
    refine xi_iconst (pc' := 9) (v := 1) kc_12_8 rfl rfl ?_
    refine xcps2 (α := Int32) ((v20 : Int32) + 1) (fun v21 ev21 => ?_)
    have rv21 := xc_rng v21
    refine xi_iadd (pc' := 10) (v := v21) kc_12_9 rfl ev21 ?_
    refine xcps4 (xj_set (v := v21) hy19 ry19 1 (by first | omega | decide) (by first | omega | decide)) (fun y22 s22 hy22 ry22 => ?_)
    refine xi_iastore (pc' := 11) (x' := y22) kc_12_10 rfl A19 rfl (xi_in (by decide) (by rw [hy19]; decide)) s22 (fun hh22 eh22 => ?_)
    have K23 := xk_pa K17 (xk_wa rfl) xD_140 hy22 ry22 eh22
    refine xi_iload_n (pc' := 12) (x := (-1)) kc_12_11 rfl rfl ?_
    refine xi_ireturn kc_12_12 mr_12 rfl ?_
    show xw J ov (d + 2) 9 (17, [(0, .ref 115), (1, .int x1), (2, .int x2), (3, .int x3)], [.int (-1)], hh22) _
    refine xi_ireturn kc_9_17 mr_9 rfl ?_
    have zcm1 : ((-1) : Int32).toInt = (-1) := by decide
    exact kk (-1) hh22 K23
  · refine xi_cmf (pc' := 5) kc_11_2 rfl (xc_lt_f (X := x1.toInt) (Y := 0) rfl (by decide) (by omega)) ?_
    refine xi_iload_n (pc' := 6) (x := x1) kc_11_5 rfl rfl ?_
    refine xi_iload_n (pc' := 7) (x := 5) kc_11_6 rfl rfl ?_
    by_cases c24 : 5 < x1.toInt
    · refine xi_cmt (pc' := 14) kc_11_7 rfl (xc_gt_t (X := x1.toInt) (Y := 5) rfl (by decide) (by omega)) ?_
      refine xi_iconst (pc' := 15) (v := 0) kc_11_14 rfl rfl ?_
      refine xi_ireturn kc_11_15 mr_11 rfl ?_
      show xw J ov (d + 1) 10 (6, [(0, .int x1)], [.int 0], hh16) _
      refine xi_ireturn kc_10_6 mr_10 rfl ?_
      show xw J ov (d + 2) 9 (9, [(0, .ref 115), (1, .int x1), (2, .int x2), (3, .int x3)], [.int 0], hh16) _
      refine xi_iff (pc' := 12) kc_9_9 rfl rfl ?_
      refine xi_aload_n (pc' := 13) (x := 115) kc_9_12 rfl rfl ?_
      refine xi_iconst (pc' := 14) (v := (-1)) kc_9_13 rfl rfl ?_
      refine xi_virtual (mj := 12) (as := [.int (-1)]) (st1 := []) (lv0 := [(0, .ref 115), (1, .int (-1))]) kc_9_14 rfl rfl rfl rfl rfl eh15.1 (Nat.le_of_ble_eq_true rfl) (hJ _ _ _ _ (by decide)) (xm_le ml_12 rfl) rfl ?_
      refine xi_aload_n (pc' := 1) (x := 115) kc_12_0 rfl rfl ?_
      refine xi_getfield (pc' := 4) (v := .ref 140) kc_12_1 rfl rfl rfl eh15.1 rfl ?_
      refine xi_iload_n (pc' := 5) (x := (-1)) kc_12_4 rfl rfl ?_
      refine xi_ineg (pc' := 6) (v := 1) kc_12_5 rfl rfl ?_
      refine xi_dup2 (pc' := 7) kc_12_6 rfl ⟨rfl, rfl⟩ ?_
      refine xcps4 (xk_arr K17.1 xD_140) (fun y25 A25 hy25 ry25 => ?_)
      refine xcps4 (xj_get hy25 ry25 (i := 1) (by decide) (by decide)) (fun v26 ev26 bv26 dv26 => ?_)
      refine xi_iaload (pc' := 8) (v := v26) kc_12_7 rfl A25 (by decide) rfl (xi_in (by decide) (by rw [hy25]; decide)) ev26 ?_
      refine xi_iconst (pc' := 9) (v := 1) kc_12_8 rfl rfl ?_
      refine xcps2 (α := Int32) ((v26 : Int32) + 1) (fun v27 ev27 => ?_)
      have rv27 := xc_rng v27
      refine xi_iadd (pc' := 10) (v := v27) kc_12_9 rfl ev27 ?_
      refine xcps4 (xj_set (v := v27) hy25 ry25 1 (by first | omega | decide) (by first | omega | decide)) (fun y28 s28 hy28 ry28 => ?_)
      refine xi_iastore (pc' := 11) (x' := y28) kc_12_10 rfl A25 rfl (xi_in (by decide) (by rw [hy25]; decide)) s28 (fun hh28 eh28 => ?_)
      have K29 := xk_pa K17 (xk_wa rfl) xD_140 hy28 ry28 eh28
      refine xi_iload_n (pc' := 12) (x := (-1)) kc_12_11 rfl rfl ?_
      refine xi_ireturn kc_12_12 mr_12 rfl ?_
      show xw J ov (d + 2) 9 (17, [(0, .ref 115), (1, .int x1), (2, .int x2), (3, .int x3)], [.int (-1)], hh28) _
      refine xi_ireturn kc_9_17 mr_9 rfl ?_
      have zcm1 : ((-1) : Int32).toInt = (-1) := by decide
      exact kk (-1) hh28 K29
    · refine xi_cmf (pc' := 10) kc_11_7 rfl (xc_gt_f (X := x1.toInt) (Y := 5) rfl (by decide) (by omega)) ?_
      refine xi_iconst (pc' := 11) (v := 1) kc_11_10 rfl rfl ?_
      refine xi_goto (pc' := 15) kc_11_11 rfl ?_
      refine xi_ireturn kc_11_15 mr_11 rfl ?_
      show xw J ov (d + 1) 10 (6, [(0, .int x1)], [.int 1], hh16) _
      refine xi_ireturn kc_10_6 mr_10 rfl ?_
      show xw J ov (d + 2) 9 (9, [(0, .ref 115), (1, .int x1), (2, .int x2), (3, .int x3)], [.int 1], hh16) _
      refine xi_ift (pc' := 18) kc_9_9 rfl rfl ?_
      refine xi_iload_n (pc' := 19) (x := x2) kc_9_18 rfl rfl ?_
      refine xi_iconst (pc' := 20) (v := 0) kc_9_19 rfl rfl ?_
      refine xi_iconst (pc' := 21) (v := 5) kc_9_20 rfl rfl ?_
      refine xi_static (mj := 11) (as := [.int x2, .int 0, .int 5]) (st1 := []) (lv0 := [(0, .int x2), (1, .int 0), (2, .int 5)]) kc_9_21 rfl rfl (Nat.le_of_ble_eq_true rfl) rfl rfl (Nat.le_of_ble_eq_true rfl) (hJ _ _ _ _ (by decide)) (xm_le ml_11 rfl) rfl ?_
      refine xi_iload_n (pc' := 1) (x := x2) kc_11_0 rfl rfl ?_
      refine xi_iload_n (pc' := 2) (x := 0) kc_11_1 rfl rfl ?_
      by_cases c30 : x2.toInt < 0
      · refine xi_cmt (pc' := 14) kc_11_2 rfl (xc_lt_t (X := x2.toInt) (Y := 0) rfl (by decide) (by omega)) ?_
        refine xi_iconst (pc' := 15) (v := 0) kc_11_14 rfl rfl ?_
        refine xi_ireturn kc_11_15 mr_11 rfl ?_
        show xw J ov (d + 2) 9 (24, [(0, .ref 115), (1, .int x1), (2, .int x2), (3, .int x3)], [.int 0], hh16) _
        refine xi_iff (pc' := 27) kc_9_24 rfl rfl ?_
        refine xi_aload_n (pc' := 28) (x := 115) kc_9_27 rfl rfl ?_
        refine xi_bipush (pc' := 30) (v := (-2)) kc_9_28 rfl rfl ?_
        refine xi_virtual (mj := 12) (as := [.int (-2)]) (st1 := []) (lv0 := [(0, .ref 115), (1, .int (-2))]) kc_9_30 rfl rfl rfl rfl rfl eh15.1 (Nat.le_of_ble_eq_true rfl) (hJ _ _ _ _ (by decide)) (xm_le ml_12 rfl) rfl ?_
        refine xi_aload_n (pc' := 1) (x := 115) kc_12_0 rfl rfl ?_
        refine xi_getfield (pc' := 4) (v := .ref 140) kc_12_1 rfl rfl rfl eh15.1 rfl ?_
        refine xi_iload_n (pc' := 5) (x := (-2)) kc_12_4 rfl rfl ?_
        refine xi_ineg (pc' := 6) (v := 2) kc_12_5 rfl rfl ?_
        refine xi_dup2 (pc' := 7) kc_12_6 rfl ⟨rfl, rfl⟩ ?_
        refine xcps4 (xk_arr K17.1 xD_140) (fun y31 A31 hy31 ry31 => ?_)
        refine xcps4 (xj_get hy31 ry31 (i := 2) (by decide) (by decide)) (fun v32 ev32 bv32 dv32 => ?_)
        refine xi_iaload (pc' := 8) (v := v32) kc_12_7 rfl A31 (by decide) rfl (xi_in (by decide) (by rw [hy31]; decide)) ev32 ?_
        refine xi_iconst (pc' := 9) (v := 1) kc_12_8 rfl rfl ?_
        refine xcps2 (α := Int32) ((v32 : Int32) + 1) (fun v33 ev33 => ?_)
        have rv33 := xc_rng v33
        refine xi_iadd (pc' := 10) (v := v33) kc_12_9 rfl ev33 ?_
        refine xcps4 (xj_set (v := v33) hy31 ry31 2 (by first | omega | decide) (by first | omega | decide)) (fun y34 s34 hy34 ry34 => ?_)
        refine xi_iastore (pc' := 11) (x' := y34) kc_12_10 rfl A31 rfl (xi_in (by decide) (by rw [hy31]; decide)) s34 (fun hh34 eh34 => ?_)
        have K35 := xk_pa K17 (xk_wa rfl) xD_140 hy34 ry34 eh34
        refine xi_iload_n (pc' := 12) (x := (-2)) kc_12_11 rfl rfl ?_
        refine xi_ireturn kc_12_12 mr_12 rfl ?_
        show xw J ov (d + 2) 9 (33, [(0, .ref 115), (1, .int x1), (2, .int x2), (3, .int x3)], [.int (-2)], hh34) _
        refine xi_ireturn kc_9_33 mr_9 rfl ?_
        have zcm2 : ((-2) : Int32).toInt = (-2) := by decide
        exact kk (-2) hh34 K35
      · refine xi_cmf (pc' := 5) kc_11_2 rfl (xc_lt_f (X := x2.toInt) (Y := 0) rfl (by decide) (by omega)) ?_
        refine xi_iload_n (pc' := 6) (x := x2) kc_11_5 rfl rfl ?_
        refine xi_iload_n (pc' := 7) (x := 5) kc_11_6 rfl rfl ?_
        by_cases c36 : 5 < x2.toInt
        · refine xi_cmt (pc' := 14) kc_11_7 rfl (xc_gt_t (X := x2.toInt) (Y := 5) rfl (by decide) (by omega)) ?_
          refine xi_iconst (pc' := 15) (v := 0) kc_11_14 rfl rfl ?_
          refine xi_ireturn kc_11_15 mr_11 rfl ?_
          show xw J ov (d + 2) 9 (24, [(0, .ref 115), (1, .int x1), (2, .int x2), (3, .int x3)], [.int 0], hh16) _
          refine xi_iff (pc' := 27) kc_9_24 rfl rfl ?_
          refine xi_aload_n (pc' := 28) (x := 115) kc_9_27 rfl rfl ?_
          refine xi_bipush (pc' := 30) (v := (-2)) kc_9_28 rfl rfl ?_
          refine xi_virtual (mj := 12) (as := [.int (-2)]) (st1 := []) (lv0 := [(0, .ref 115), (1, .int (-2))]) kc_9_30 rfl rfl rfl rfl rfl eh15.1 (Nat.le_of_ble_eq_true rfl) (hJ _ _ _ _ (by decide)) (xm_le ml_12 rfl) rfl ?_
          refine xi_aload_n (pc' := 1) (x := 115) kc_12_0 rfl rfl ?_
          refine xi_getfield (pc' := 4) (v := .ref 140) kc_12_1 rfl rfl rfl eh15.1 rfl ?_
          refine xi_iload_n (pc' := 5) (x := (-2)) kc_12_4 rfl rfl ?_
          refine xi_ineg (pc' := 6) (v := 2) kc_12_5 rfl rfl ?_
          refine xi_dup2 (pc' := 7) kc_12_6 rfl ⟨rfl, rfl⟩ ?_
          refine xcps4 (xk_arr K17.1 xD_140) (fun y37 A37 hy37 ry37 => ?_)
          refine xcps4 (xj_get hy37 ry37 (i := 2) (by decide) (by decide)) (fun v38 ev38 bv38 dv38 => ?_)
          refine xi_iaload (pc' := 8) (v := v38) kc_12_7 rfl A37 (by decide) rfl (xi_in (by decide) (by rw [hy37]; decide)) ev38 ?_
          refine xi_iconst (pc' := 9) (v := 1) kc_12_8 rfl rfl ?_
          refine xcps2 (α := Int32) ((v38 : Int32) + 1) (fun v39 ev39 => ?_)
          have rv39 := xc_rng v39
          refine xi_iadd (pc' := 10) (v := v39) kc_12_9 rfl ev39 ?_
          refine xcps4 (xj_set (v := v39) hy37 ry37 2 (by first | omega | decide) (by first | omega | decide)) (fun y40 s40 hy40 ry40 => ?_)
          refine xi_iastore (pc' := 11) (x' := y40) kc_12_10 rfl A37 rfl (xi_in (by decide) (by rw [hy37]; decide)) s40 (fun hh40 eh40 => ?_)
          have K41 := xk_pa K17 (xk_wa rfl) xD_140 hy40 ry40 eh40
          refine xi_iload_n (pc' := 12) (x := (-2)) kc_12_11 rfl rfl ?_
          refine xi_ireturn kc_12_12 mr_12 rfl ?_
          show xw J ov (d + 2) 9 (33, [(0, .ref 115), (1, .int x1), (2, .int x2), (3, .int x3)], [.int (-2)], hh40) _
          refine xi_ireturn kc_9_33 mr_9 rfl ?_
          have zcm2 : ((-2) : Int32).toInt = (-2) := by decide
          exact kk (-2) hh40 K41
        · refine xi_cmf (pc' := 10) kc_11_7 rfl (xc_gt_f (X := x2.toInt) (Y := 5) rfl (by decide) (by omega)) ?_
          refine xi_iconst (pc' := 11) (v := 1) kc_11_10 rfl rfl ?_
          refine xi_goto (pc' := 15) kc_11_11 rfl ?_
          refine xi_ireturn kc_11_15 mr_11 rfl ?_
          show xw J ov (d + 2) 9 (24, [(0, .ref 115), (1, .int x1), (2, .int x2), (3, .int x3)], [.int 1], hh16) _
          refine xi_ift (pc' := 34) kc_9_24 rfl rfl ?_
          refine xi_iload_n (pc' := 35) (x := x3) kc_9_34 rfl rfl ?_
          refine xi_iload_n (pc' := 36) (x := x2) kc_9_35 rfl rfl ?_
          by_cases c42 : x2.toInt = 0
          · refine xi_iff (pc' := 39) kc_9_36 rfl (xc_ne_f (X := x2.toInt) (Y := 0) rfl (by decide) (by omega)) ?_
            refine xi_bipush (pc' := 41) (v := 10) kc_9_39 rfl rfl ?_
            refine xi_goto (pc' := 45) kc_9_41 rfl ?_
            by_cases c43 : 10 ≤ x3.toInt
            · refine xi_cmt (pc' := 55) kc_9_45 rfl (xc_ge_t (X := x3.toInt) (Y := 10) rfl (by decide) (by omega)) ?_
              refine xi_iload_n (pc' := 56) (x := x3) kc_9_55 rfl rfl ?_
              refine xi_iload_n (pc' := 57) (x := x2) kc_9_56 rfl rfl ?_
              refine xi_iff (pc' := 60) kc_9_57 rfl (xc_ne_f (X := x2.toInt) (Y := 0) rfl (by decide) (by omega)) ?_
              refine xi_bipush (pc' := 62) (v := 99) kc_9_60 rfl rfl ?_
              refine xi_goto (pc' := 96) kc_9_62 rfl ?_
              by_cases c44 : x3.toInt ≤ 99
              · refine xi_cmt (pc' := 106) kc_9_96 rfl (xc_le_t (X := x3.toInt) (Y := 99) rfl (by decide) (by omega)) ?_
                refine xi_aload_n (pc' := 107) (x := 115) kc_9_106 rfl rfl ?_
                refine xi_iload_n (pc' := 108) (x := x1) kc_9_107 rfl rfl ?_
                refine xi_iload_n (pc' := 109) (x := x2) kc_9_108 rfl rfl ?_
                refine xi_virtual (mj := 13) (as := [.int x1, .int x2]) (st1 := []) (lv0 := [(0, .ref 115), (1, .int x1), (2, .int x2)]) kc_9_109 rfl rfl rfl rfl rfl eh15.1 (Nat.le_of_ble_eq_true rfl) (hJ _ _ _ _ (by decide)) (xm_le ml_13 rfl) rfl ?_
                refine xi_iload_n (pc' := 1) (x := x2) kc_13_0 rfl rfl ?_
                refine xi_tsi (pc' := 36) (z := 0) kc_13_1 (by omega) rfl (by decide) ?_
                refine xi_aload_n (pc' := 37) (x := 115) kc_13_36 rfl rfl ?_
                refine xi_getfield (pc' := 40) (v := .ref 116) kc_13_37 rfl rfl rfl eh15.1 rfl ?_
                refine xi_iload_n (pc' := 41) (x := x1) kc_13_40 rfl rfl ?_
                refine xcps4 (xk_arr K17.1 xD_116) (fun y45 A45 hy45 ry45 => ?_)
                refine xcps4 (xj_get hy45 ry45 (i := x1) (by omega) (by omega)) (fun v46 ev46 bv46 dv46 => ?_)
                refine xi_iaload (pc' := 42) (v := v46) kc_13_41 rfl A45 (by decide) rfl (xi_in (by omega) (by rw [hy45]; omega)) ev46 ?_
                refine xi_ireturn kc_13_42 mr_13 rfl ?_
                show xw J ov (d + 2) 9 (112, [(0, .ref 115), (1, .int x1), (2, .int x2), (3, .int x3)], [.int v46], hh16) _
                refine xi_istore (pc' := 114) (lv' := [(4, .int v46), (0, .ref 115), (1, .int x1), (2, .int x2), (3, .int x3)]) kc_9_112 rfl rfl (xm_lt ml_9 rfl) ?_
                refine xi_aload_n (pc' := 115) (x := 115) kc_9_114 rfl rfl ?_
                refine xi_iload_n (pc' := 116) (x := x1) kc_9_115 rfl rfl ?_
                refine xi_iload_n (pc' := 117) (x := x2) kc_9_116 rfl rfl ?_
                refine xi_iload_n (pc' := 118) (x := x3) kc_9_117 rfl rfl ?_
                refine xi_virtual (mj := 14) (as := [.int x1, .int x2, .int x3]) (st1 := []) (lv0 := [(0, .ref 115), (1, .int x1), (2, .int x2), (3, .int x3)]) kc_9_118 rfl rfl rfl rfl rfl eh15.1 (Nat.le_of_ble_eq_true rfl) (hJ _ _ _ _ (by decide)) (xm_le ml_14 rfl) rfl ?_
                refine mt_14_0 hJ hov1 hov2 (d := d) (x1 := x1) (x2 := x2) (x3 := x3) K17.1 (by first | omega | decide) (by first | omega | decide) (fun hh48 K49 => ?_)
                have K50 := xk_tr K17 K49 rfl
                refine xp_115 K50.1 (fun u51 u52 u53 u54 u55 u56 u57 u58 u59 u60 u61 u62 u63 bu51 bu52 bu53 bu54 bu55 bu56 bu57 bu58 bu59 bu60 bu61 bu62 bu63 A64 => ?_)
                have e65 : u2 = u52 := xk_eqi (q := 1) K49 rfl eh15.1 A64 rfl rfl
                subst e65
                have e66 : u4 = u54 := xk_eqi (q := 18) K49 rfl eh15.1 A64 rfl rfl
                subst e66
                show xw J ov (d + 2) 9 (121, [(4, .int v46), (0, .ref 115), (1, .int x1), (2, .int x2), (3, .int x3)], [], hh48) _
                refine xi_iload (pc' := 123) (x := v46) kc_9_121 rfl rfl ?_
                refine xi_ireturn kc_9_123 mr_9 rfl ?_
                exact kk v46 hh48 K50
              · refine xi_cmf (pc' := 99) kc_9_96 rfl (xc_le_f (X := x3.toInt) (Y := 99) rfl (by decide) (by omega)) ?_
                refine xi_aload_n (pc' := 100) (x := 115) kc_9_99 rfl rfl ?_
                refine xi_bipush (pc' := 102) (v := (-6)) kc_9_100 rfl rfl ?_
                refine xi_virtual (mj := 12) (as := [.int (-6)]) (st1 := []) (lv0 := [(0, .ref 115), (1, .int (-6))]) kc_9_102 rfl rfl rfl rfl rfl eh15.1 (Nat.le_of_ble_eq_true rfl) (hJ _ _ _ _ (by decide)) (xm_le ml_12 rfl) rfl ?_
                refine xi_aload_n (pc' := 1) (x := 115) kc_12_0 rfl rfl ?_
                refine xi_getfield (pc' := 4) (v := .ref 140) kc_12_1 rfl rfl rfl eh15.1 rfl ?_
                refine xi_iload_n (pc' := 5) (x := (-6)) kc_12_4 rfl rfl ?_
                refine xi_ineg (pc' := 6) (v := 6) kc_12_5 rfl rfl ?_
                refine xi_dup2 (pc' := 7) kc_12_6 rfl ⟨rfl, rfl⟩ ?_
                refine xcps4 (xk_arr K17.1 xD_140) (fun y67 A67 hy67 ry67 => ?_)
                refine xcps4 (xj_get hy67 ry67 (i := 6) (by decide) (by decide)) (fun v68 ev68 bv68 dv68 => ?_)
                refine xi_iaload (pc' := 8) (v := v68) kc_12_7 rfl A67 (by decide) rfl (xi_in (by decide) (by rw [hy67]; decide)) ev68 ?_
                refine xi_iconst (pc' := 9) (v := 1) kc_12_8 rfl rfl ?_
                refine xcps2 (α := Int32) ((v68 : Int32) + 1) (fun v69 ev69 => ?_)
                have rv69 := xc_rng v69
                refine xi_iadd (pc' := 10) (v := v69) kc_12_9 rfl ev69 ?_
                refine xcps4 (xj_set (v := v69) hy67 ry67 6 (by first | omega | decide) (by first | omega | decide)) (fun y70 s70 hy70 ry70 => ?_)
                refine xi_iastore (pc' := 11) (x' := y70) kc_12_10 rfl A67 rfl (xi_in (by decide) (by rw [hy67]; decide)) s70 (fun hh70 eh70 => ?_)
                have K71 := xk_pa K17 (xk_wa rfl) xD_140 hy70 ry70 eh70
                refine xi_iload_n (pc' := 12) (x := (-6)) kc_12_11 rfl rfl ?_
                refine xi_ireturn kc_12_12 mr_12 rfl ?_
                show xw J ov (d + 2) 9 (105, [(0, .ref 115), (1, .int x1), (2, .int x2), (3, .int x3)], [.int (-6)], hh70) _
                refine xi_ireturn kc_9_105 mr_9 rfl ?_
                have zcm6 : ((-6) : Int32).toInt = (-6) := by decide
                exact kk (-6) hh70 K71
            · refine xi_cmf (pc' := 48) kc_9_45 rfl (xc_ge_f (X := x3.toInt) (Y := 10) rfl (by decide) (by omega)) ?_
              refine xi_aload_n (pc' := 49) (x := 115) kc_9_48 rfl rfl ?_
              refine xi_bipush (pc' := 51) (v := (-4)) kc_9_49 rfl rfl ?_
              refine xi_virtual (mj := 12) (as := [.int (-4)]) (st1 := []) (lv0 := [(0, .ref 115), (1, .int (-4))]) kc_9_51 rfl rfl rfl rfl rfl eh15.1 (Nat.le_of_ble_eq_true rfl) (hJ _ _ _ _ (by decide)) (xm_le ml_12 rfl) rfl ?_
              refine xi_aload_n (pc' := 1) (x := 115) kc_12_0 rfl rfl ?_
              refine xi_getfield (pc' := 4) (v := .ref 140) kc_12_1 rfl rfl rfl eh15.1 rfl ?_
              refine xi_iload_n (pc' := 5) (x := (-4)) kc_12_4 rfl rfl ?_
              refine xi_ineg (pc' := 6) (v := 4) kc_12_5 rfl rfl ?_
              refine xi_dup2 (pc' := 7) kc_12_6 rfl ⟨rfl, rfl⟩ ?_
              refine xcps4 (xk_arr K17.1 xD_140) (fun y72 A72 hy72 ry72 => ?_)
              refine xcps4 (xj_get hy72 ry72 (i := 4) (by decide) (by decide)) (fun v73 ev73 bv73 dv73 => ?_)
              refine xi_iaload (pc' := 8) (v := v73) kc_12_7 rfl A72 (by decide) rfl (xi_in (by decide) (by rw [hy72]; decide)) ev73 ?_
              refine xi_iconst (pc' := 9) (v := 1) kc_12_8 rfl rfl ?_
              refine xcps2 (α := Int32) ((v73 : Int32) + 1) (fun v74 ev74 => ?_)
              have rv74 := xc_rng v74
              refine xi_iadd (pc' := 10) (v := v74) kc_12_9 rfl ev74 ?_
              refine xcps4 (xj_set (v := v74) hy72 ry72 4 (by first | omega | decide) (by first | omega | decide)) (fun y75 s75 hy75 ry75 => ?_)
              refine xi_iastore (pc' := 11) (x' := y75) kc_12_10 rfl A72 rfl (xi_in (by decide) (by rw [hy72]; decide)) s75 (fun hh75 eh75 => ?_)
              have K76 := xk_pa K17 (xk_wa rfl) xD_140 hy75 ry75 eh75
              refine xi_iload_n (pc' := 12) (x := (-4)) kc_12_11 rfl rfl ?_
              refine xi_ireturn kc_12_12 mr_12 rfl ?_
              show xw J ov (d + 2) 9 (54, [(0, .ref 115), (1, .int x1), (2, .int x2), (3, .int x3)], [.int (-4)], hh75) _
              refine xi_ireturn kc_9_54 mr_9 rfl ?_
              have zcm4 : ((-4) : Int32).toInt = (-4) := by decide
              exact kk (-4) hh75 K76
          · refine xi_ift (pc' := 44) kc_9_36 rfl (xc_ne_t (X := x2.toInt) (Y := 0) rfl (by decide) (by omega)) ?_
            refine xi_iconst (pc' := 45) (v := 0) kc_9_44 rfl rfl ?_
            by_cases c77 : 0 ≤ x3.toInt
            · refine xi_cmt (pc' := 55) kc_9_45 rfl (xc_ge_t (X := x3.toInt) (Y := 0) rfl (by decide) (by omega)) ?_
              refine xi_iload_n (pc' := 56) (x := x3) kc_9_55 rfl rfl ?_
              refine xi_iload_n (pc' := 57) (x := x2) kc_9_56 rfl rfl ?_
              refine xi_ift (pc' := 65) kc_9_57 rfl (xc_ne_t (X := x2.toInt) (Y := 0) rfl (by decide) (by omega)) ?_
              refine xi_iload_n (pc' := 66) (x := x2) kc_9_65 rfl rfl ?_
              refine xi_iconst (pc' := 67) (v := 1) kc_9_66 rfl rfl ?_
              by_cases c78 : x2.toInt = 1
              · refine xi_cmf (pc' := 70) kc_9_67 rfl (xc_ne_f (X := x2.toInt) (Y := 1) rfl (by decide) (by omega)) ?_
                refine xi_bipush (pc' := 72) (v := 30) kc_9_70 rfl rfl ?_
                refine xi_goto (pc' := 96) kc_9_72 rfl ?_
                by_cases c79 : x3.toInt ≤ 30
                · refine xi_cmt (pc' := 106) kc_9_96 rfl (xc_le_t (X := x3.toInt) (Y := 30) rfl (by decide) (by omega)) ?_
                  refine xi_aload_n (pc' := 107) (x := 115) kc_9_106 rfl rfl ?_
                  refine xi_iload_n (pc' := 108) (x := x1) kc_9_107 rfl rfl ?_
                  refine xi_iload_n (pc' := 109) (x := x2) kc_9_108 rfl rfl ?_
                  refine xi_virtual (mj := 13) (as := [.int x1, .int x2]) (st1 := []) (lv0 := [(0, .ref 115), (1, .int x1), (2, .int x2)]) kc_9_109 rfl rfl rfl rfl rfl eh15.1 (Nat.le_of_ble_eq_true rfl) (hJ _ _ _ _ (by decide)) (xm_le ml_13 rfl) rfl ?_
                  refine xi_iload_n (pc' := 1) (x := x2) kc_13_0 rfl rfl ?_
                  refine xi_tsi (pc' := 43) (z := 1) kc_13_1 (by omega) rfl (by decide) ?_
                  refine xi_aload_n (pc' := 44) (x := 115) kc_13_43 rfl rfl ?_
                  refine xi_getfield (pc' := 47) (v := .ref 117) kc_13_44 rfl rfl rfl eh15.1 rfl ?_
                  refine xi_iload_n (pc' := 48) (x := x1) kc_13_47 rfl rfl ?_
                  refine xcps4 (xk_arr K17.1 xD_117) (fun y80 A80 hy80 ry80 => ?_)
                  refine xcps4 (xj_get hy80 ry80 (i := x1) (by omega) (by omega)) (fun v81 ev81 bv81 dv81 => ?_)
                  refine xi_iaload (pc' := 49) (v := v81) kc_13_48 rfl A80 (by decide) rfl (xi_in (by omega) (by rw [hy80]; omega)) ev81 ?_
                  refine xi_ireturn kc_13_49 mr_13 rfl ?_
                  show xw J ov (d + 2) 9 (112, [(0, .ref 115), (1, .int x1), (2, .int x2), (3, .int x3)], [.int v81], hh16) _
                  refine xi_istore (pc' := 114) (lv' := [(4, .int v81), (0, .ref 115), (1, .int x1), (2, .int x2), (3, .int x3)]) kc_9_112 rfl rfl (xm_lt ml_9 rfl) ?_
                  refine xi_aload_n (pc' := 115) (x := 115) kc_9_114 rfl rfl ?_
                  refine xi_iload_n (pc' := 116) (x := x1) kc_9_115 rfl rfl ?_
                  refine xi_iload_n (pc' := 117) (x := x2) kc_9_116 rfl rfl ?_
                  refine xi_iload_n (pc' := 118) (x := x3) kc_9_117 rfl rfl ?_
                  refine xi_virtual (mj := 14) (as := [.int x1, .int x2, .int x3]) (st1 := []) (lv0 := [(0, .ref 115), (1, .int x1), (2, .int x2), (3, .int x3)]) kc_9_118 rfl rfl rfl rfl rfl eh15.1 (Nat.le_of_ble_eq_true rfl) (hJ _ _ _ _ (by decide)) (xm_le ml_14 rfl) rfl ?_
                  refine mt_14_0 hJ hov1 hov2 (d := d) (x1 := x1) (x2 := x2) (x3 := x3) K17.1 (by first | omega | decide) (by first | omega | decide) (fun hh83 K84 => ?_)
                  have K85 := xk_tr K17 K84 rfl
                  refine xp_115 K85.1 (fun u86 u87 u88 u89 u90 u91 u92 u93 u94 u95 u96 u97 u98 bu86 bu87 bu88 bu89 bu90 bu91 bu92 bu93 bu94 bu95 bu96 bu97 bu98 A99 => ?_)
                  have e100 : u2 = u87 := xk_eqi (q := 1) K84 rfl eh15.1 A99 rfl rfl
                  subst e100
                  have e101 : u4 = u89 := xk_eqi (q := 18) K84 rfl eh15.1 A99 rfl rfl
                  subst e101
                  show xw J ov (d + 2) 9 (121, [(4, .int v81), (0, .ref 115), (1, .int x1), (2, .int x2), (3, .int x3)], [], hh83) _
                  refine xi_iload (pc' := 123) (x := v81) kc_9_121 rfl rfl ?_
                  refine xi_ireturn kc_9_123 mr_9 rfl ?_
                  exact kk v81 hh83 K85
                · refine xi_cmf (pc' := 99) kc_9_96 rfl (xc_le_f (X := x3.toInt) (Y := 30) rfl (by decide) (by omega)) ?_
                  refine xi_aload_n (pc' := 100) (x := 115) kc_9_99 rfl rfl ?_
                  refine xi_bipush (pc' := 102) (v := (-6)) kc_9_100 rfl rfl ?_
                  refine xi_virtual (mj := 12) (as := [.int (-6)]) (st1 := []) (lv0 := [(0, .ref 115), (1, .int (-6))]) kc_9_102 rfl rfl rfl rfl rfl eh15.1 (Nat.le_of_ble_eq_true rfl) (hJ _ _ _ _ (by decide)) (xm_le ml_12 rfl) rfl ?_
                  refine xi_aload_n (pc' := 1) (x := 115) kc_12_0 rfl rfl ?_
                  refine xi_getfield (pc' := 4) (v := .ref 140) kc_12_1 rfl rfl rfl eh15.1 rfl ?_
                  refine xi_iload_n (pc' := 5) (x := (-6)) kc_12_4 rfl rfl ?_
                  refine xi_ineg (pc' := 6) (v := 6) kc_12_5 rfl rfl ?_
                  refine xi_dup2 (pc' := 7) kc_12_6 rfl ⟨rfl, rfl⟩ ?_
                  refine xcps4 (xk_arr K17.1 xD_140) (fun y102 A102 hy102 ry102 => ?_)
                  refine xcps4 (xj_get hy102 ry102 (i := 6) (by decide) (by decide)) (fun v103 ev103 bv103 dv103 => ?_)
                  refine xi_iaload (pc' := 8) (v := v103) kc_12_7 rfl A102 (by decide) rfl (xi_in (by decide) (by rw [hy102]; decide)) ev103 ?_
                  refine xi_iconst (pc' := 9) (v := 1) kc_12_8 rfl rfl ?_
                  refine xcps2 (α := Int32) ((v103 : Int32) + 1) (fun v104 ev104 => ?_)
                  have rv104 := xc_rng v104
                  refine xi_iadd (pc' := 10) (v := v104) kc_12_9 rfl ev104 ?_
                  refine xcps4 (xj_set (v := v104) hy102 ry102 6 (by first | omega | decide) (by first | omega | decide)) (fun y105 s105 hy105 ry105 => ?_)
                  refine xi_iastore (pc' := 11) (x' := y105) kc_12_10 rfl A102 rfl (xi_in (by decide) (by rw [hy102]; decide)) s105 (fun hh105 eh105 => ?_)
                  have K106 := xk_pa K17 (xk_wa rfl) xD_140 hy105 ry105 eh105
                  refine xi_iload_n (pc' := 12) (x := (-6)) kc_12_11 rfl rfl ?_
                  refine xi_ireturn kc_12_12 mr_12 rfl ?_
                  show xw J ov (d + 2) 9 (105, [(0, .ref 115), (1, .int x1), (2, .int x2), (3, .int x3)], [.int (-6)], hh105) _
                  refine xi_ireturn kc_9_105 mr_9 rfl ?_
                  have zcm6 : ((-6) : Int32).toInt = (-6) := by decide
                  exact kk (-6) hh105 K106
              · refine xi_cmt (pc' := 75) kc_9_67 rfl (xc_ne_t (X := x2.toInt) (Y := 1) rfl (by decide) (by omega)) ?_
                refine xi_iload_n (pc' := 76) (x := x2) kc_9_75 rfl rfl ?_
                refine xi_iconst (pc' := 77) (v := 4) kc_9_76 rfl rfl ?_
                by_cases c107 : 4 ≤ x2.toInt
                · refine xi_cmt (pc' := 85) kc_9_77 rfl (xc_ge_t (X := x2.toInt) (Y := 4) rfl (by decide) (by omega)) ?_
                  refine xi_iload_n (pc' := 86) (x := x2) kc_9_85 rfl rfl ?_
                  refine xi_iconst (pc' := 87) (v := 4) kc_9_86 rfl rfl ?_
                  by_cases c108 : x2.toInt = 4
                  · refine xi_cmf (pc' := 90) kc_9_87 rfl (xc_ne_f (X := x2.toInt) (Y := 4) rfl (by decide) (by omega)) ?_
                    refine xi_iconst (pc' := 91) (v := 1) kc_9_90 rfl rfl ?_
                    refine xi_goto (pc' := 96) kc_9_91 rfl ?_
                    by_cases c109 : x3.toInt ≤ 1
                    · refine xi_cmt (pc' := 106) kc_9_96 rfl (xc_le_t (X := x3.toInt) (Y := 1) rfl (by decide) (by omega)) ?_
                      refine xi_aload_n (pc' := 107) (x := 115) kc_9_106 rfl rfl ?_
                      refine xi_iload_n (pc' := 108) (x := x1) kc_9_107 rfl rfl ?_
                      refine xi_iload_n (pc' := 109) (x := x2) kc_9_108 rfl rfl ?_
                      refine xi_virtual (mj := 13) (as := [.int x1, .int x2]) (st1 := []) (lv0 := [(0, .ref 115), (1, .int x1), (2, .int x2)]) kc_9_109 rfl rfl rfl rfl rfl eh15.1 (Nat.le_of_ble_eq_true rfl) (hJ _ _ _ _ (by decide)) (xm_le ml_13 rfl) rfl ?_
                      refine xi_iload_n (pc' := 1) (x := x2) kc_13_0 rfl rfl ?_
                      refine xi_tsi (pc' := 64) (z := 4) kc_13_1 (by omega) rfl (by decide) ?_
                      refine xi_aload_n (pc' := 65) (x := 115) kc_13_64 rfl rfl ?_
                      refine xi_getfield (pc' := 68) (v := .ref 120) kc_13_65 rfl rfl rfl eh15.1 rfl ?_
                      refine xi_iload_n (pc' := 69) (x := x1) kc_13_68 rfl rfl ?_
                      refine xcps4 (xk_arr K17.1 xD_120) (fun y110 A110 hy110 ry110 => ?_)
                      refine xcps4 (xj_get hy110 ry110 (i := x1) (by omega) (by omega)) (fun v111 ev111 bv111 dv111 => ?_)
                      refine xi_iaload (pc' := 70) (v := v111) kc_13_69 rfl A110 (by decide) rfl (xi_in (by omega) (by rw [hy110]; omega)) ev111 ?_
                      refine xi_ireturn kc_13_70 mr_13 rfl ?_
                      show xw J ov (d + 2) 9 (112, [(0, .ref 115), (1, .int x1), (2, .int x2), (3, .int x3)], [.int v111], hh16) _
                      refine xi_istore (pc' := 114) (lv' := [(4, .int v111), (0, .ref 115), (1, .int x1), (2, .int x2), (3, .int x3)]) kc_9_112 rfl rfl (xm_lt ml_9 rfl) ?_
                      refine xi_aload_n (pc' := 115) (x := 115) kc_9_114 rfl rfl ?_
                      refine xi_iload_n (pc' := 116) (x := x1) kc_9_115 rfl rfl ?_
                      refine xi_iload_n (pc' := 117) (x := x2) kc_9_116 rfl rfl ?_
                      refine xi_iload_n (pc' := 118) (x := x3) kc_9_117 rfl rfl ?_
                      refine xi_virtual (mj := 14) (as := [.int x1, .int x2, .int x3]) (st1 := []) (lv0 := [(0, .ref 115), (1, .int x1), (2, .int x2), (3, .int x3)]) kc_9_118 rfl rfl rfl rfl rfl eh15.1 (Nat.le_of_ble_eq_true rfl) (hJ _ _ _ _ (by decide)) (xm_le ml_14 rfl) rfl ?_
                      refine mt_14_0 hJ hov1 hov2 (d := d) (x1 := x1) (x2 := x2) (x3 := x3) K17.1 (by first | omega | decide) (by first | omega | decide) (fun hh113 K114 => ?_)
                      have K115 := xk_tr K17 K114 rfl
                      refine xp_115 K115.1 (fun u116 u117 u118 u119 u120 u121 u122 u123 u124 u125 u126 u127 u128 bu116 bu117 bu118 bu119 bu120 bu121 bu122 bu123 bu124 bu125 bu126 bu127 bu128 A129 => ?_)
                      have e130 : u2 = u117 := xk_eqi (q := 1) K114 rfl eh15.1 A129 rfl rfl
                      subst e130
                      have e131 : u4 = u119 := xk_eqi (q := 18) K114 rfl eh15.1 A129 rfl rfl
                      subst e131
                      show xw J ov (d + 2) 9 (121, [(4, .int v111), (0, .ref 115), (1, .int x1), (2, .int x2), (3, .int x3)], [], hh113) _
                      refine xi_iload (pc' := 123) (x := v111) kc_9_121 rfl rfl ?_
                      refine xi_ireturn kc_9_123 mr_9 rfl ?_
                      exact kk v111 hh113 K115
                    · refine xi_cmf (pc' := 99) kc_9_96 rfl (xc_le_f (X := x3.toInt) (Y := 1) rfl (by decide) (by omega)) ?_
                      refine xi_aload_n (pc' := 100) (x := 115) kc_9_99 rfl rfl ?_
                      refine xi_bipush (pc' := 102) (v := (-6)) kc_9_100 rfl rfl ?_
                      refine xi_virtual (mj := 12) (as := [.int (-6)]) (st1 := []) (lv0 := [(0, .ref 115), (1, .int (-6))]) kc_9_102 rfl rfl rfl rfl rfl eh15.1 (Nat.le_of_ble_eq_true rfl) (hJ _ _ _ _ (by decide)) (xm_le ml_12 rfl) rfl ?_
                      refine xi_aload_n (pc' := 1) (x := 115) kc_12_0 rfl rfl ?_
                      refine xi_getfield (pc' := 4) (v := .ref 140) kc_12_1 rfl rfl rfl eh15.1 rfl ?_
                      refine xi_iload_n (pc' := 5) (x := (-6)) kc_12_4 rfl rfl ?_
                      refine xi_ineg (pc' := 6) (v := 6) kc_12_5 rfl rfl ?_
                      refine xi_dup2 (pc' := 7) kc_12_6 rfl ⟨rfl, rfl⟩ ?_
                      refine xcps4 (xk_arr K17.1 xD_140) (fun y132 A132 hy132 ry132 => ?_)
                      refine xcps4 (xj_get hy132 ry132 (i := 6) (by decide) (by decide)) (fun v133 ev133 bv133 dv133 => ?_)
                      refine xi_iaload (pc' := 8) (v := v133) kc_12_7 rfl A132 (by decide) rfl (xi_in (by decide) (by rw [hy132]; decide)) ev133 ?_
                      refine xi_iconst (pc' := 9) (v := 1) kc_12_8 rfl rfl ?_
                      refine xcps2 (α := Int32) ((v133 : Int32) + 1) (fun v134 ev134 => ?_)
                      have rv134 := xc_rng v134
                      refine xi_iadd (pc' := 10) (v := v134) kc_12_9 rfl ev134 ?_
                      refine xcps4 (xj_set (v := v134) hy132 ry132 6 (by first | omega | decide) (by first | omega | decide)) (fun y135 s135 hy135 ry135 => ?_)
                      refine xi_iastore (pc' := 11) (x' := y135) kc_12_10 rfl A132 rfl (xi_in (by decide) (by rw [hy132]; decide)) s135 (fun hh135 eh135 => ?_)
                      have K136 := xk_pa K17 (xk_wa rfl) xD_140 hy135 ry135 eh135
                      refine xi_iload_n (pc' := 12) (x := (-6)) kc_12_11 rfl rfl ?_
                      refine xi_ireturn kc_12_12 mr_12 rfl ?_
                      show xw J ov (d + 2) 9 (105, [(0, .ref 115), (1, .int x1), (2, .int x2), (3, .int x3)], [.int (-6)], hh135) _
                      refine xi_ireturn kc_9_105 mr_9 rfl ?_
                      have zcm6 : ((-6) : Int32).toInt = (-6) := by decide
                      exact kk (-6) hh135 K136
                  · refine xi_cmt (pc' := 94) kc_9_87 rfl (xc_ne_t (X := x2.toInt) (Y := 4) rfl (by decide) (by omega)) ?_
                    refine xi_ldc (pc' := 96) (v := 99999) kc_9_94 rfl rfl ?_
                    by_cases c137 : x3.toInt ≤ 99999
                    · refine xi_cmt (pc' := 106) kc_9_96 rfl (xc_le_t (X := x3.toInt) (Y := 99999) rfl (by decide) (by omega)) ?_
                      refine xi_aload_n (pc' := 107) (x := 115) kc_9_106 rfl rfl ?_
                      refine xi_iload_n (pc' := 108) (x := x1) kc_9_107 rfl rfl ?_
                      refine xi_iload_n (pc' := 109) (x := x2) kc_9_108 rfl rfl ?_
                      refine xi_virtual (mj := 13) (as := [.int x1, .int x2]) (st1 := []) (lv0 := [(0, .ref 115), (1, .int x1), (2, .int x2)]) kc_9_109 rfl rfl rfl rfl rfl eh15.1 (Nat.le_of_ble_eq_true rfl) (hJ _ _ _ _ (by decide)) (xm_le ml_13 rfl) rfl ?_
                      refine xi_iload_n (pc' := 1) (x := x2) kc_13_0 rfl rfl ?_
                      refine xi_tsd (pc' := 71) kc_13_1 rfl (by omega) ?_
                      refine xi_aload_n (pc' := 72) (x := 115) kc_13_71 rfl rfl ?_
                      refine xi_getfield (pc' := 75) (v := .ref 121) kc_13_72 rfl rfl rfl eh15.1 rfl ?_
                      refine xi_iload_n (pc' := 76) (x := x1) kc_13_75 rfl rfl ?_
                      refine xcps4 (xk_arr K17.1 xD_121) (fun y138 A138 hy138 ry138 => ?_)
                      refine xcps4 (xj_get hy138 ry138 (i := x1) (by omega) (by omega)) (fun v139 ev139 bv139 dv139 => ?_)
                      refine xi_iaload (pc' := 77) (v := v139) kc_13_76 rfl A138 (by decide) rfl (xi_in (by omega) (by rw [hy138]; omega)) ev139 ?_
                      refine xi_ireturn kc_13_77 mr_13 rfl ?_
                      show xw J ov (d + 2) 9 (112, [(0, .ref 115), (1, .int x1), (2, .int x2), (3, .int x3)], [.int v139], hh16) _
                      refine xi_istore (pc' := 114) (lv' := [(4, .int v139), (0, .ref 115), (1, .int x1), (2, .int x2), (3, .int x3)]) kc_9_112 rfl rfl (xm_lt ml_9 rfl) ?_
                      refine xi_aload_n (pc' := 115) (x := 115) kc_9_114 rfl rfl ?_
                      refine xi_iload_n (pc' := 116) (x := x1) kc_9_115 rfl rfl ?_
                      refine xi_iload_n (pc' := 117) (x := x2) kc_9_116 rfl rfl ?_
                      refine xi_iload_n (pc' := 118) (x := x3) kc_9_117 rfl rfl ?_
                      refine xi_virtual (mj := 14) (as := [.int x1, .int x2, .int x3]) (st1 := []) (lv0 := [(0, .ref 115), (1, .int x1), (2, .int x2), (3, .int x3)]) kc_9_118 rfl rfl rfl rfl rfl eh15.1 (Nat.le_of_ble_eq_true rfl) (hJ _ _ _ _ (by decide)) (xm_le ml_14 rfl) rfl ?_
                      refine mt_14_0 hJ hov1 hov2 (d := d) (x1 := x1) (x2 := x2) (x3 := x3) K17.1 (by first | omega | decide) (by first | omega | decide) (fun hh141 K142 => ?_)
                      have K143 := xk_tr K17 K142 rfl
                      refine xp_115 K143.1 (fun u144 u145 u146 u147 u148 u149 u150 u151 u152 u153 u154 u155 u156 bu144 bu145 bu146 bu147 bu148 bu149 bu150 bu151 bu152 bu153 bu154 bu155 bu156 A157 => ?_)
                      have e158 : u2 = u145 := xk_eqi (q := 1) K142 rfl eh15.1 A157 rfl rfl
                      subst e158
                      have e159 : u4 = u147 := xk_eqi (q := 18) K142 rfl eh15.1 A157 rfl rfl
                      subst e159
                      show xw J ov (d + 2) 9 (121, [(4, .int v139), (0, .ref 115), (1, .int x1), (2, .int x2), (3, .int x3)], [], hh141) _
                      refine xi_iload (pc' := 123) (x := v139) kc_9_121 rfl rfl ?_
                      refine xi_ireturn kc_9_123 mr_9 rfl ?_
                      exact kk v139 hh141 K143
                    · refine xi_cmf (pc' := 99) kc_9_96 rfl (xc_le_f (X := x3.toInt) (Y := 99999) rfl (by decide) (by omega)) ?_
                      refine xi_aload_n (pc' := 100) (x := 115) kc_9_99 rfl rfl ?_
                      refine xi_bipush (pc' := 102) (v := (-6)) kc_9_100 rfl rfl ?_
                      refine xi_virtual (mj := 12) (as := [.int (-6)]) (st1 := []) (lv0 := [(0, .ref 115), (1, .int (-6))]) kc_9_102 rfl rfl rfl rfl rfl eh15.1 (Nat.le_of_ble_eq_true rfl) (hJ _ _ _ _ (by decide)) (xm_le ml_12 rfl) rfl ?_
                      refine xi_aload_n (pc' := 1) (x := 115) kc_12_0 rfl rfl ?_
                      refine xi_getfield (pc' := 4) (v := .ref 140) kc_12_1 rfl rfl rfl eh15.1 rfl ?_
                      refine xi_iload_n (pc' := 5) (x := (-6)) kc_12_4 rfl rfl ?_
                      refine xi_ineg (pc' := 6) (v := 6) kc_12_5 rfl rfl ?_
                      refine xi_dup2 (pc' := 7) kc_12_6 rfl ⟨rfl, rfl⟩ ?_
                      refine xcps4 (xk_arr K17.1 xD_140) (fun y160 A160 hy160 ry160 => ?_)
                      refine xcps4 (xj_get hy160 ry160 (i := 6) (by decide) (by decide)) (fun v161 ev161 bv161 dv161 => ?_)
                      refine xi_iaload (pc' := 8) (v := v161) kc_12_7 rfl A160 (by decide) rfl (xi_in (by decide) (by rw [hy160]; decide)) ev161 ?_
                      refine xi_iconst (pc' := 9) (v := 1) kc_12_8 rfl rfl ?_
                      refine xcps2 (α := Int32) ((v161 : Int32) + 1) (fun v162 ev162 => ?_)
                      have rv162 := xc_rng v162
                      refine xi_iadd (pc' := 10) (v := v162) kc_12_9 rfl ev162 ?_
                      refine xcps4 (xj_set (v := v162) hy160 ry160 6 (by first | omega | decide) (by first | omega | decide)) (fun y163 s163 hy163 ry163 => ?_)
                      refine xi_iastore (pc' := 11) (x' := y163) kc_12_10 rfl A160 rfl (xi_in (by decide) (by rw [hy160]; decide)) s163 (fun hh163 eh163 => ?_)
                      have K164 := xk_pa K17 (xk_wa rfl) xD_140 hy163 ry163 eh163
                      refine xi_iload_n (pc' := 12) (x := (-6)) kc_12_11 rfl rfl ?_
                      refine xi_ireturn kc_12_12 mr_12 rfl ?_
                      show xw J ov (d + 2) 9 (105, [(0, .ref 115), (1, .int x1), (2, .int x2), (3, .int x3)], [.int (-6)], hh163) _
                      refine xi_ireturn kc_9_105 mr_9 rfl ?_
                      have zcm6 : ((-6) : Int32).toInt = (-6) := by decide
                      exact kk (-6) hh163 K164
                · refine xi_cmf (pc' := 80) kc_9_77 rfl (xc_ge_f (X := x2.toInt) (Y := 4) rfl (by decide) (by omega)) ?_
                  refine xi_bipush (pc' := 82) (v := 50) kc_9_80 rfl rfl ?_
                  refine xi_goto (pc' := 96) kc_9_82 rfl ?_
                  by_cases c165 : x3.toInt ≤ 50
                  · refine xi_cmt (pc' := 106) kc_9_96 rfl (xc_le_t (X := x3.toInt) (Y := 50) rfl (by decide) (by omega)) ?_
                    refine xi_aload_n (pc' := 107) (x := 115) kc_9_106 rfl rfl ?_
                    refine xi_iload_n (pc' := 108) (x := x1) kc_9_107 rfl rfl ?_
                    refine xi_iload_n (pc' := 109) (x := x2) kc_9_108 rfl rfl ?_
                    refine xi_virtual (mj := 13) (as := [.int x1, .int x2]) (st1 := []) (lv0 := [(0, .ref 115), (1, .int x1), (2, .int x2)]) kc_9_109 rfl rfl rfl rfl rfl eh15.1 (Nat.le_of_ble_eq_true rfl) (hJ _ _ _ _ (by decide)) (xm_le ml_13 rfl) rfl ?_
                    refine xi_iload_n (pc' := 1) (x := x2) kc_13_0 rfl rfl ?_
                    by_cases c166 : x2.toInt = 2
                    · refine xi_tsi (pc' := 50) (z := 2) kc_13_1 (by omega) rfl (by decide) ?_
                      refine xi_aload_n (pc' := 51) (x := 115) kc_13_50 rfl rfl ?_
                      refine xi_getfield (pc' := 54) (v := .ref 118) kc_13_51 rfl rfl rfl eh15.1 rfl ?_
                      refine xi_iload_n (pc' := 55) (x := x1) kc_13_54 rfl rfl ?_
                      refine xcps4 (xk_arr K17.1 xD_118) (fun y167 A167 hy167 ry167 => ?_)
                      refine xcps4 (xj_get hy167 ry167 (i := x1) (by omega) (by omega)) (fun v168 ev168 bv168 dv168 => ?_)
                      refine xi_iaload (pc' := 56) (v := v168) kc_13_55 rfl A167 (by decide) rfl (xi_in (by omega) (by rw [hy167]; omega)) ev168 ?_
                      refine xi_ireturn kc_13_56 mr_13 rfl ?_
                      show xw J ov (d + 2) 9 (112, [(0, .ref 115), (1, .int x1), (2, .int x2), (3, .int x3)], [.int v168], hh16) _
                      refine xi_istore (pc' := 114) (lv' := [(4, .int v168), (0, .ref 115), (1, .int x1), (2, .int x2), (3, .int x3)]) kc_9_112 rfl rfl (xm_lt ml_9 rfl) ?_
                      refine xi_aload_n (pc' := 115) (x := 115) kc_9_114 rfl rfl ?_
                      refine xi_iload_n (pc' := 116) (x := x1) kc_9_115 rfl rfl ?_
                      refine xi_iload_n (pc' := 117) (x := x2) kc_9_116 rfl rfl ?_
                      refine xi_iload_n (pc' := 118) (x := x3) kc_9_117 rfl rfl ?_
                      refine xi_virtual (mj := 14) (as := [.int x1, .int x2, .int x3]) (st1 := []) (lv0 := [(0, .ref 115), (1, .int x1), (2, .int x2), (3, .int x3)]) kc_9_118 rfl rfl rfl rfl rfl eh15.1 (Nat.le_of_ble_eq_true rfl) (hJ _ _ _ _ (by decide)) (xm_le ml_14 rfl) rfl ?_
                      refine mt_14_0 hJ hov1 hov2 (d := d) (x1 := x1) (x2 := x2) (x3 := x3) K17.1 (by first | omega | decide) (by first | omega | decide) (fun hh170 K171 => ?_)
                      have K172 := xk_tr K17 K171 rfl
                      refine xp_115 K172.1 (fun u173 u174 u175 u176 u177 u178 u179 u180 u181 u182 u183 u184 u185 bu173 bu174 bu175 bu176 bu177 bu178 bu179 bu180 bu181 bu182 bu183 bu184 bu185 A186 => ?_)
                      have e187 : u2 = u174 := xk_eqi (q := 1) K171 rfl eh15.1 A186 rfl rfl
                      subst e187
                      have e188 : u4 = u176 := xk_eqi (q := 18) K171 rfl eh15.1 A186 rfl rfl
                      subst e188
                      show xw J ov (d + 2) 9 (121, [(4, .int v168), (0, .ref 115), (1, .int x1), (2, .int x2), (3, .int x3)], [], hh170) _
                      refine xi_iload (pc' := 123) (x := v168) kc_9_121 rfl rfl ?_
                      refine xi_ireturn kc_9_123 mr_9 rfl ?_
                      exact kk v168 hh170 K172
                    refine xi_tsi (pc' := 57) (z := 3) kc_13_1 (by omega) rfl (by decide) ?_
                    refine xi_aload_n (pc' := 58) (x := 115) kc_13_57 rfl rfl ?_
                    refine xi_getfield (pc' := 61) (v := .ref 119) kc_13_58 rfl rfl rfl eh15.1 rfl ?_
                    refine xi_iload_n (pc' := 62) (x := x1) kc_13_61 rfl rfl ?_
                    refine xcps4 (xk_arr K17.1 xD_119) (fun y189 A189 hy189 ry189 => ?_)
                    refine xcps4 (xj_get hy189 ry189 (i := x1) (by omega) (by omega)) (fun v190 ev190 bv190 dv190 => ?_)
                    refine xi_iaload (pc' := 63) (v := v190) kc_13_62 rfl A189 (by decide) rfl (xi_in (by omega) (by rw [hy189]; omega)) ev190 ?_
                    refine xi_ireturn kc_13_63 mr_13 rfl ?_
                    show xw J ov (d + 2) 9 (112, [(0, .ref 115), (1, .int x1), (2, .int x2), (3, .int x3)], [.int v190], hh16) _
                    refine xi_istore (pc' := 114) (lv' := [(4, .int v190), (0, .ref 115), (1, .int x1), (2, .int x2), (3, .int x3)]) kc_9_112 rfl rfl (xm_lt ml_9 rfl) ?_
                    refine xi_aload_n (pc' := 115) (x := 115) kc_9_114 rfl rfl ?_
                    refine xi_iload_n (pc' := 116) (x := x1) kc_9_115 rfl rfl ?_
                    refine xi_iload_n (pc' := 117) (x := x2) kc_9_116 rfl rfl ?_
                    refine xi_iload_n (pc' := 118) (x := x3) kc_9_117 rfl rfl ?_
                    refine xi_virtual (mj := 14) (as := [.int x1, .int x2, .int x3]) (st1 := []) (lv0 := [(0, .ref 115), (1, .int x1), (2, .int x2), (3, .int x3)]) kc_9_118 rfl rfl rfl rfl rfl eh15.1 (Nat.le_of_ble_eq_true rfl) (hJ _ _ _ _ (by decide)) (xm_le ml_14 rfl) rfl ?_
                    refine mt_14_0 hJ hov1 hov2 (d := d) (x1 := x1) (x2 := x2) (x3 := x3) K17.1 (by first | omega | decide) (by first | omega | decide) (fun hh192 K193 => ?_)
                    have K194 := xk_tr K17 K193 rfl
                    refine xp_115 K194.1 (fun u195 u196 u197 u198 u199 u200 u201 u202 u203 u204 u205 u206 u207 bu195 bu196 bu197 bu198 bu199 bu200 bu201 bu202 bu203 bu204 bu205 bu206 bu207 A208 => ?_)
                    have e209 : u2 = u196 := xk_eqi (q := 1) K193 rfl eh15.1 A208 rfl rfl
                    subst e209
                    have e210 : u4 = u198 := xk_eqi (q := 18) K193 rfl eh15.1 A208 rfl rfl
                    subst e210
                    show xw J ov (d + 2) 9 (121, [(4, .int v190), (0, .ref 115), (1, .int x1), (2, .int x2), (3, .int x3)], [], hh192) _
                    refine xi_iload (pc' := 123) (x := v190) kc_9_121 rfl rfl ?_
                    refine xi_ireturn kc_9_123 mr_9 rfl ?_
                    exact kk v190 hh192 K194
                  · refine xi_cmf (pc' := 99) kc_9_96 rfl (xc_le_f (X := x3.toInt) (Y := 50) rfl (by decide) (by omega)) ?_
                    refine xi_aload_n (pc' := 100) (x := 115) kc_9_99 rfl rfl ?_
                    refine xi_bipush (pc' := 102) (v := (-6)) kc_9_100 rfl rfl ?_
                    refine xi_virtual (mj := 12) (as := [.int (-6)]) (st1 := []) (lv0 := [(0, .ref 115), (1, .int (-6))]) kc_9_102 rfl rfl rfl rfl rfl eh15.1 (Nat.le_of_ble_eq_true rfl) (hJ _ _ _ _ (by decide)) (xm_le ml_12 rfl) rfl ?_
                    refine xi_aload_n (pc' := 1) (x := 115) kc_12_0 rfl rfl ?_
                    refine xi_getfield (pc' := 4) (v := .ref 140) kc_12_1 rfl rfl rfl eh15.1 rfl ?_
                    refine xi_iload_n (pc' := 5) (x := (-6)) kc_12_4 rfl rfl ?_
                    refine xi_ineg (pc' := 6) (v := 6) kc_12_5 rfl rfl ?_
                    refine xi_dup2 (pc' := 7) kc_12_6 rfl ⟨rfl, rfl⟩ ?_
                    refine xcps4 (xk_arr K17.1 xD_140) (fun y211 A211 hy211 ry211 => ?_)
                    refine xcps4 (xj_get hy211 ry211 (i := 6) (by decide) (by decide)) (fun v212 ev212 bv212 dv212 => ?_)
                    refine xi_iaload (pc' := 8) (v := v212) kc_12_7 rfl A211 (by decide) rfl (xi_in (by decide) (by rw [hy211]; decide)) ev212 ?_
                    refine xi_iconst (pc' := 9) (v := 1) kc_12_8 rfl rfl ?_
                    refine xcps2 (α := Int32) ((v212 : Int32) + 1) (fun v213 ev213 => ?_)
                    have rv213 := xc_rng v213
                    refine xi_iadd (pc' := 10) (v := v213) kc_12_9 rfl ev213 ?_
                    refine xcps4 (xj_set (v := v213) hy211 ry211 6 (by first | omega | decide) (by first | omega | decide)) (fun y214 s214 hy214 ry214 => ?_)
                    refine xi_iastore (pc' := 11) (x' := y214) kc_12_10 rfl A211 rfl (xi_in (by decide) (by rw [hy211]; decide)) s214 (fun hh214 eh214 => ?_)
                    have K215 := xk_pa K17 (xk_wa rfl) xD_140 hy214 ry214 eh214
                    refine xi_iload_n (pc' := 12) (x := (-6)) kc_12_11 rfl rfl ?_
                    refine xi_ireturn kc_12_12 mr_12 rfl ?_
                    show xw J ov (d + 2) 9 (105, [(0, .ref 115), (1, .int x1), (2, .int x2), (3, .int x3)], [.int (-6)], hh214) _
                    refine xi_ireturn kc_9_105 mr_9 rfl ?_
                    have zcm6 : ((-6) : Int32).toInt = (-6) := by decide
                    exact kk (-6) hh214 K215
            · refine xi_cmf (pc' := 48) kc_9_45 rfl (xc_ge_f (X := x3.toInt) (Y := 0) rfl (by decide) (by omega)) ?_
              refine xi_aload_n (pc' := 49) (x := 115) kc_9_48 rfl rfl ?_
              refine xi_bipush (pc' := 51) (v := (-4)) kc_9_49 rfl rfl ?_
              refine xi_virtual (mj := 12) (as := [.int (-4)]) (st1 := []) (lv0 := [(0, .ref 115), (1, .int (-4))]) kc_9_51 rfl rfl rfl rfl rfl eh15.1 (Nat.le_of_ble_eq_true rfl) (hJ _ _ _ _ (by decide)) (xm_le ml_12 rfl) rfl ?_
              refine xi_aload_n (pc' := 1) (x := 115) kc_12_0 rfl rfl ?_
              refine xi_getfield (pc' := 4) (v := .ref 140) kc_12_1 rfl rfl rfl eh15.1 rfl ?_
              refine xi_iload_n (pc' := 5) (x := (-4)) kc_12_4 rfl rfl ?_
              refine xi_ineg (pc' := 6) (v := 4) kc_12_5 rfl rfl ?_
              refine xi_dup2 (pc' := 7) kc_12_6 rfl ⟨rfl, rfl⟩ ?_
              refine xcps4 (xk_arr K17.1 xD_140) (fun y216 A216 hy216 ry216 => ?_)
              refine xcps4 (xj_get hy216 ry216 (i := 4) (by decide) (by decide)) (fun v217 ev217 bv217 dv217 => ?_)
              refine xi_iaload (pc' := 8) (v := v217) kc_12_7 rfl A216 (by decide) rfl (xi_in (by decide) (by rw [hy216]; decide)) ev217 ?_
              refine xi_iconst (pc' := 9) (v := 1) kc_12_8 rfl rfl ?_
              refine xcps2 (α := Int32) ((v217 : Int32) + 1) (fun v218 ev218 => ?_)
              have rv218 := xc_rng v218
              refine xi_iadd (pc' := 10) (v := v218) kc_12_9 rfl ev218 ?_
              refine xcps4 (xj_set (v := v218) hy216 ry216 4 (by first | omega | decide) (by first | omega | decide)) (fun y219 s219 hy219 ry219 => ?_)
              refine xi_iastore (pc' := 11) (x' := y219) kc_12_10 rfl A216 rfl (xi_in (by decide) (by rw [hy216]; decide)) s219 (fun hh219 eh219 => ?_)
              have K220 := xk_pa K17 (xk_wa rfl) xD_140 hy219 ry219 eh219
              refine xi_iload_n (pc' := 12) (x := (-4)) kc_12_11 rfl rfl ?_
              refine xi_ireturn kc_12_12 mr_12 rfl ?_
              show xw J ov (d + 2) 9 (54, [(0, .ref 115), (1, .int x1), (2, .int x2), (3, .int x3)], [.int (-4)], hh219) _
              refine xi_ireturn kc_9_54 mr_9 rfl ?_
              have zcm4 : ((-4) : Int32).toInt = (-4) := by decide
              exact kk (-4) hh219 K220
