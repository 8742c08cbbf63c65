set_option maxHeartbeats 4000000 in
theorem mt_148_0 {J : xe_J} {ov : List (List Int32)} (hJ : ∀ d mj as h, mj ≠ xe_loff → J d mj as h = none) (hov1 : ov[1]? = some [10, 0, 0, 0, 0, 0]) (hov2 : ov[2]? = some [99, 30, 50, 50, 1, 99999]) {d : Nat} {Q : Option Value → xe_H → Prop} {h : xe_H} {x1 : Int32} (T : xt h) (kk : (∀ (r : Int32) (h' : xe_H), xk [(0, 9), (115, 1), (83, 0), (29, 0), (31, 0), (33, 0), (35, 0), (37, 0), (39, 0), (41, 0), (43, 0), (45, 0), (47, 0), (49, 0), (51, 0), (125, 0), (66, 8), (115, 18), (71, 0), (132, 0)] h h' → Q (some (.int r)) h')) : xw J ov (d + 7) 148 (0, [(0, .ref 0), (1, .int x1)], [], h) Q := by
  have K : xk [(0, 9), (115, 1), (83, 0), (29, 0), (31, 0), (33, 0), (35, 0), (37, 0), (39, 0), (41, 0), (43, 0), (45, 0), (47, 0), (49, 0), (51, 0), (125, 0), (66, 8), (115, 18), (71, 0), (132, 0)] h h := xk_re T
  have rx1 := xc_rng x1
  refine xi_iload_n (pc' := 1) (x := x1) kc_148_0 rfl rfl ?_
  by_cases c1 : x1.toInt = 0
  · refine xi_ift (pc' := 16) kc_148_1 rfl (xc_eq_t (X := x1.toInt) (Y := 0) rfl (by decide) (by omega)) ?_
    refine xi_aload_n (pc' := 17) (x := 0) kc_148_16 rfl rfl ?_
    refine xp_0 K.1 (fun u2 u3 bu2 bu3 A4 => ?_)
    refine xi_getfield (pc' := 20) (v := .ref 66) kc_148_17 rfl rfl rfl A4 rfl ?_
    refine xp_66 K.1 (fun u6 wl5 bu6 A7 => ?_)
    refine xi_virtual (mj := 149) (as := []) (st1 := []) (lv0 := [(0, .ref 66)]) kc_148_20 rfl rfl rfl rfl rfl A7 (Nat.le_of_ble_eq_true rfl) (hJ _ _ _ _ (by decide)) (xm_le ml_149 rfl) rfl ?_
    refine mt_149_0 hJ hov1 hov2 (d := d)  K.1 (fun r8 hh9 K10 => ?_)
    have br8 := xc_rng r8
    have K11 := xk_tr K K10 rfl
    refine xp_0 K11.1 (fun u12 u13 bu12 bu13 A14 => ?_)
    have e15 : u3 = u13 := xk_eqi (q := 9) K10 rfl A4 A14 rfl rfl
    subst e15
    refine xp_66 K11.1 (fun u17 wl16 bu17 A18 => ?_)
    have e19 : u6 = u17 := xk_eqi (q := 8) K10 rfl A7 A18 rfl rfl
    subst e19
    show xw J ov (d + 7) 148 (23, [(0, .ref 0), (1, .int x1)], [.int r8], hh9) _
    refine xi_istore_n (pc' := 24) (lv' := [(2, .int r8), (0, .ref 0), (1, .int x1)]) kc_148_23 rfl rfl (xm_lt ml_148 rfl) ?_
    refine xi_iload_n (pc' := 25) (x := r8) kc_148_24 rfl rfl ?_
    refine xi_bipush (pc' := 27) (v := (-9)) kc_148_25 rfl rfl ?_
    by_cases c20 : r8.toInt = (-9)
    · refine xi_cmt (pc' := 35) kc_148_27 rfl (xc_eq_t (X := r8.toInt) (Y := (-9)) rfl (by decide) (by omega)) ?_
      refine xi_iload_n (pc' := 36) (x := r8) kc_148_35 rfl rfl ?_
      refine xi_ireturn kc_148_36 mr_148 rfl ?_
      exact kk r8 hh9 K11
    · refine xi_cmf (pc' := 30) kc_148_27 rfl (xc_eq_f (X := r8.toInt) (Y := (-9)) rfl (by decide) (by omega)) ?_
      refine xi_iload_n (pc' := 31) (x := x1) kc_148_30 rfl rfl ?_
      refine xi_iconst (pc' := 32) (v := 1) kc_148_31 rfl rfl ?_
      refine xi_cmt (pc' := 37) kc_148_32 rfl (xc_ne_t (X := x1.toInt) (Y := 1) rfl (by decide) (by omega)) ?_
      refine xi_aload_n (pc' := 38) (x := 0) kc_148_37 rfl rfl ?_
      refine xi_getfield (pc' := 41) (v := .ref 66) kc_148_38 rfl rfl rfl A14 rfl ?_
      refine xi_iload_n (pc' := 42) (x := r8) kc_148_41 rfl rfl ?_
      refine xi_virtual (mj := 150) (as := [.int r8]) (st1 := []) (lv0 := [(0, .ref 66), (1, .int r8)]) kc_148_42 rfl rfl rfl rfl rfl A18 (Nat.le_of_ble_eq_true rfl) (hJ _ _ _ _ (by decide)) (xm_le ml_150 rfl) rfl ?_
      refine mt_150_0 hJ hov1 hov2 (d := d) (x1 := r8) K11.1 (fun r21 hh22 K23 => ?_)
      have br21 := xc_rng r21
      have K24 := xk_tr K11 K23 rfl
      refine xp_0 K24.1 (fun u25 u26 bu25 bu26 A27 => ?_)
      have e28 : u3 = u26 := xk_eqi (q := 9) K23 rfl A14 A27 rfl rfl
      subst e28
      refine xp_66 K24.1 (fun u30 wl29 bu30 A31 => ?_)
      have e32 : u6 = u30 := xk_eqi (q := 8) K23 rfl A18 A31 rfl rfl
      subst e32
      show xw J ov (d + 7) 148 (45, [(2, .int r8), (0, .ref 0), (1, .int x1)], [.int r21], hh22) _
      refine xi_ireturn kc_148_45 mr_148 rfl ?_
      exact kk r21 hh22 K24
  · refine xi_iff (pc' := 4) kc_148_1 rfl (xc_eq_f (X := x1.toInt) (Y := 0) rfl (by decide) (by omega)) ?_
    refine xi_iload_n (pc' := 5) (x := x1) kc_148_4 rfl rfl ?_
    refine xi_iconst (pc' := 6) (v := 1) kc_148_5 rfl rfl ?_
    by_cases c33 : x1.toInt = 1
    · refine xi_cmt (pc' := 16) kc_148_6 rfl (xc_eq_t (X := x1.toInt) (Y := 1) rfl (by decide) (by omega)) ?_
      refine xi_aload_n (pc' := 17) (x := 0) kc_148_16 rfl rfl ?_
      refine xp_0 K.1 (fun u34 u35 bu34 bu35 A36 => ?_)
      refine xi_getfield (pc' := 20) (v := .ref 66) kc_148_17 rfl rfl rfl A36 rfl ?_
      refine xp_66 K.1 (fun u38 wl37 bu38 A39 => ?_)
      refine xi_virtual (mj := 149) (as := []) (st1 := []) (lv0 := [(0, .ref 66)]) kc_148_20 rfl rfl rfl rfl rfl A39 (Nat.le_of_ble_eq_true rfl) (hJ _ _ _ _ (by decide)) (xm_le ml_149 rfl) rfl ?_
      refine mt_149_0 hJ hov1 hov2 (d := d)  K.1 (fun r40 hh41 K42 => ?_)
      have br40 := xc_rng r40
      have K43 := xk_tr K K42 rfl
      refine xp_0 K43.1 (fun u44 u45 bu44 bu45 A46 => ?_)
      have e47 : u35 = u45 := xk_eqi (q := 9) K42 rfl A36 A46 rfl rfl
      subst e47
      refine xp_66 K43.1 (fun u49 wl48 bu49 A50 => ?_)
      have e51 : u38 = u49 := xk_eqi (q := 8) K42 rfl A39 A50 rfl rfl
      subst e51
      show xw J ov (d + 7) 148 (23, [(0, .ref 0), (1, .int x1)], [.int r40], hh41) _
      refine xi_istore_n (pc' := 24) (lv' := [(2, .int r40), (0, .ref 0), (1, .int x1)]) kc_148_23 rfl rfl (xm_lt ml_148 rfl) ?_
      refine xi_iload_n (pc' := 25) (x := r40) kc_148_24 rfl rfl ?_
      refine xi_bipush (pc' := 27) (v := (-9)) kc_148_25 rfl rfl ?_
      by_cases c52 : r40.toInt = (-9)
      · refine xi_cmt (pc' := 35) kc_148_27 rfl (xc_eq_t (X := r40.toInt) (Y := (-9)) rfl (by decide) (by omega)) ?_
        refine xi_iload_n (pc' := 36) (x := r40) kc_148_35 rfl rfl ?_
        refine xi_ireturn kc_148_36 mr_148 rfl ?_
        exact kk r40 hh41 K43
      · refine xi_cmf (pc' := 30) kc_148_27 rfl (xc_eq_f (X := r40.toInt) (Y := (-9)) rfl (by decide) (by omega)) ?_
        refine xi_iload_n (pc' := 31) (x := x1) kc_148_30 rfl rfl ?_
        refine xi_iconst (pc' := 32) (v := 1) kc_148_31 rfl rfl ?_
        refine xi_cmf (pc' := 35) kc_148_32 rfl (xc_ne_f (X := x1.toInt) (Y := 1) rfl (by decide) (by omega)) ?_
        refine xi_iload_n (pc' := 36) (x := r40) kc_148_35 rfl rfl ?_
        refine xi_ireturn kc_148_36 mr_148 rfl ?_
        exact kk r40 hh41 K43
    · refine xi_cmf (pc' := 9) kc_148_6 rfl (xc_eq_f (X := x1.toInt) (Y := 1) rfl (by decide) (by omega)) ?_
      refine xi_aload_n (pc' := 10) (x := 0) kc_148_9 rfl rfl ?_
      refine xi_bipush (pc' := 12) (v := (-2)) kc_148_10 rfl rfl ?_
      refine xp_0 K.1 (fun u53 u54 bu53 bu54 A55 => ?_)
      refine xi_virtual (mj := 90) (as := [.int (-2)]) (st1 := []) (lv0 := [(0, .ref 0), (1, .int (-2))]) kc_148_12 rfl rfl rfl rfl rfl A55 (Nat.le_of_ble_eq_true rfl) (hJ _ _ _ _ (by decide)) (xm_le ml_90 rfl) rfl ?_
      refine xi_iload_n (pc' := 1) (x := (-2)) kc_90_0 rfl rfl ?_
      refine xi_ineg (pc' := 2) (v := 2) kc_90_1 rfl rfl ?_
      refine xi_istore_n (pc' := 3) (lv' := [(2, .int 2), (0, .ref 0), (1, .int (-2))]) kc_90_2 rfl rfl (xm_lt ml_90 rfl) ?_
      refine xi_iload_n (pc' := 4) (x := 2) kc_90_3 rfl rfl ?_
      refine xi_iff (pc' := 7) kc_90_4 rfl rfl ?_
      refine xi_iload_n (pc' := 8) (x := 2) kc_90_7 rfl rfl ?_
      refine xi_aload_n (pc' := 9) (x := 0) kc_90_8 rfl rfl ?_
      refine xi_getfield (pc' := 12) (v := .ref 94) kc_90_9 rfl rfl rfl A55 rfl ?_
      refine xcps4 (xk_arr K.1 xD_94) (fun y56 A56 hy56 ry56 => ?_)
      refine xi_arraylength (pc' := 13) (n := 7) (v := 7) kc_90_12 rfl (xl_lenI (by decide) (by decide) A56 hy56) rfl ?_
      refine xi_cmf (pc' := 16) kc_90_13 rfl rfl ?_
      refine xi_aload_n (pc' := 17) (x := 0) kc_90_16 rfl rfl ?_
      refine xi_getfield (pc' := 20) (v := .ref 94) kc_90_17 rfl rfl rfl A55 rfl ?_
      refine xi_iload_n (pc' := 21) (x := 2) kc_90_20 rfl rfl ?_
      refine xi_dup2 (pc' := 22) kc_90_21 rfl ⟨rfl, rfl⟩ ?_
      refine xcps4 (xj_get hy56 ry56 (i := 2) (by decide) (by decide)) (fun v57 ev57 bv57 dv57 => ?_)
      refine xi_iaload (pc' := 23) (v := v57) kc_90_22 rfl A56 (by decide) rfl (xi_in (by decide) (by rw [hy56]; decide)) ev57 ?_
      refine xi_iconst (pc' := 24) (v := 1) kc_90_23 rfl rfl ?_
      refine xcps2 (α := Int32) ((v57 : Int32) + 1) (fun v58 ev58 => ?_)
      have rv58 := xc_rng v58
      refine xi_iadd (pc' := 25) (v := v58) kc_90_24 rfl ev58 ?_
      refine xcps4 (xj_set (v := v58) hy56 ry56 2 (by first | omega | decide) (by first | omega | decide)) (fun y59 s59 hy59 ry59 => ?_)
      refine xi_iastore (pc' := 26) (x' := y59) kc_90_25 rfl A56 rfl (xi_in (by decide) (by rw [hy56]; decide)) s59 (fun hh59 eh59 => ?_)
      have K60 := xk_pa K (xk_wa rfl) xD_94 hy59 ry59 eh59
      refine xi_iload_n (pc' := 27) (x := (-2)) kc_90_26 rfl rfl ?_
      refine xi_ireturn kc_90_27 mr_90 rfl ?_
      show xw J ov (d + 7) 148 (15, [(0, .ref 0), (1, .int x1)], [.int (-2)], hh59) _
      refine xi_ireturn kc_148_15 mr_148 rfl ?_
      have zcm2 : ((-2) : Int32).toInt = (-2) := by decide
      exact kk (-2) hh59 K60
set_option maxHeartbeats 4000000 in
theorem mt_15_0 {J : xe_J} {ov : List (List Int32)} (hJ : ∀ d mj as h, mj ≠ xe_loff → J d mj as h = none) (hov1 : ov[1]? = some [10, 0, 0, 0, 0, 0]) (hov2 : ov[2]? = some [99, 30, 50, 50, 1, 99999]) {d : Nat} {Q : Option Value → xe_H → Prop} {h : xe_H} {x1 : Int32} {x2 : Int32} {x3 : Int32} (T : xt h) (kk : (∀ (r : Int32) (h' : xe_H), xk [(0, 9), (115, 1), (83, 0), (29, 0), (31, 0), (33, 0), (35, 0), (37, 0), (39, 0), (41, 0), (43, 0), (45, 0), (47, 0), (49, 0), (51, 0), (125, 0), (66, 8), (115, 18), (71, 0), (132, 0)] h h' → Q (some (.int r)) h')) : xw J ov (d + 2) 15 (0, [(0, .ref 115), (1, .int x1), (2, .int x2), (3, .int x3)], [], h) Q := by
  have K : xk [(0, 9), (115, 1), (83, 0), (29, 0), (31, 0), (33, 0), (35, 0), (37, 0), (39, 0), (41, 0), (43, 0), (45, 0), (47, 0), (49, 0), (51, 0), (125, 0), (66, 8), (115, 18), (71, 0), (132, 0)] h h := xk_re T
  have rx1 := xc_rng x1
  have rx2 := xc_rng x2
  have rx3 := xc_rng x3
  refine xi_aload_n (pc' := 1) (x := 115) kc_15_0 rfl rfl ?_
  refine xi_iconst (pc' := 2) (v := 0) kc_15_1 rfl rfl ?_
  refine xp_115 K.1 (fun u1 u2 u3 u4 u5 u6 u7 u8 u9 u10 u11 u12 u13 bu1 bu2 bu3 bu4 bu5 bu6 bu7 bu8 bu9 bu10 bu11 bu12 bu13 A14 => ?_)
  refine xi_putfield (pc' := 5) (fs' := [.int 0, .int u2, .ref 116, .ref 117, .ref 118, .ref 119, .ref 120, .ref 121, .ref 122, .ref 123, .ref 124, .ref 125, .ref 126, .ref 127, .ref 128, .ref 129, .int u3, .ref 130, .int u4, .ref 131, .ref 132, .ref 133, .ref 134, .int u5, .ref 135, .ref 136, .ref 137, .ref 138, .ref 139, .ref 140, .ref 141, .ref 142, .int u6, .int u7, .int u8, .ref 143, .ref 144, .ref 145, .ref 146, .ref 147, .ref 148, .int u9, .ref 149, .ref 150, .ref 151, .int u10, .ref 152, .ref 153, .ref 154, .ref 155, .ref 156, .ref 157, .ref 158, .ref 159, .int u11, .ref 160, .int u12, .ref 161, .ref 162, .ref 163, .ref 164, .int u13, .ref 165, .ref 166]) kc_15_2 rfl rfl rfl A14 rfl rfl rfl (Nat.le_of_ble_eq_true rfl) rfl (fun hh16 eh15 => ?_)
  have K17 := xk_pf (k := 0) (v := 0) K (xk_wf rfl) xD_115 A14 rfl (by first | omega | decide) (by first | omega | decide) eh15 rfl
  refine xi_iload_n (pc' := 6) (x := x1) kc_15_5 rfl rfl ?_
  refine xi_static (mj := 10) (as := [.int x1]) (st1 := []) (lv0 := [(0, .int x1)]) kc_15_6 rfl rfl (Nat.le_of_ble_eq_true rfl) rfl rfl (Nat.le_of_ble_eq_true rfl) (hJ _ _ _ _ (by decide)) (xm_le ml_10 rfl) rfl ?_
  refine xi_iload_n (pc' := 1) (x := x1) kc_10_0 rfl rfl ?_
  refine xi_iconst (pc' := 2) (v := 0) kc_10_1 rfl rfl ?_
  refine xi_iconst (pc' := 3) (v := 5) kc_10_2 rfl rfl ?_
  refine xi_static (mj := 11) (as := [.int x1, .int 0, .int 5]) (st1 := []) (lv0 := [(0, .int x1), (1, .int 0), (2, .int 5)]) kc_10_3 rfl rfl (Nat.le_of_ble_eq_true rfl) rfl rfl (Nat.le_of_ble_eq_true rfl) (hJ _ _ _ _ (by decide)) (xm_le ml_11 rfl) rfl ?_
  refine xi_iload_n (pc' := 1) (x := x1) kc_11_0 rfl rfl ?_
  refine xi_iload_n (pc' := 2) (x := 0) kc_11_1 rfl rfl ?_
  by_cases c18 : x1.toInt < 0
  · refine xi_cmt (pc' := 14) kc_11_2 rfl (xc_lt_t (X := x1.toInt) (Y := 0) rfl (by decide) (by omega)) ?_
    refine xi_iconst (pc' := 15) (v := 0) kc_11_14 rfl rfl ?_
    refine xi_ireturn kc_11_15 mr_11 rfl ?_
    show xw J ov (d + 1) 10 (6, [(0, .int x1)], [.int 0], hh16) _
    refine xi_ireturn kc_10_6 mr_10 rfl ?_
    show xw J ov (d + 2) 15 (9, [(0, .ref 115), (1, .int x1), (2, .int x2), (3, .int x3)], [.int 0], hh16) _
    refine xi_ift (pc' := 22) kc_15_9 rfl rfl ?_
    refine xi_aload_n (pc' := 23) (x := 115) kc_15_22 rfl rfl ?_
    refine xi_iconst (pc' := 24) (v := (-1)) kc_15_23 rfl rfl ?_
    refine xi_virtual (mj := 12) (as := [.int (-1)]) (st1 := []) (lv0 := [(0, .ref 115), (1, .int (-1))]) kc_15_24 rfl rfl rfl rfl rfl eh15.1 (Nat.le_of_ble_eq_true rfl) (hJ _ _ _ _ (by decide)) (xm_le ml_12 rfl) rfl ?_
    refine xi_aload_n (pc' := 1) (x := 115) kc_12_0 rfl rfl ?_
    refine xi_getfield (pc' := 4) (v := .ref 140) kc_12_1 rfl rfl rfl eh15.1 rfl ?_
    refine xi_iload_n (pc' := 5) (x := (-1)) kc_12_4 rfl rfl ?_
    refine xi_ineg (pc' := 6) (v := 1) kc_12_5 rfl rfl ?_
    refine xi_dup2 (pc' := 7) kc_12_6 rfl ⟨rfl, rfl⟩ ?_
    refine xcps4 (xk_arr K17.1 xD_140) (fun y19 A19 hy19 ry19 => ?_)
    refine xcps4 (xj_get hy19 ry19 (i := 1) (by decide) (by decide)) (fun v20 ev20 bv20 dv20 => ?_)
    refine xi_iaload (pc' := 8) (v := v20) kc_12_7 rfl A19 (by decide) rfl (xi_in (by decide) (by rw [hy19]; decide)) ev20 ?_
    refine xi_iconst (pc' := 9) (v := 1) kc_12_8 rfl rfl ?_
    refine xcps2 (α := Int32) ((v20 : Int32) + 1) (fun v21 ev21 => ?_)
    have rv21 := xc_rng v21
    refine xi_iadd (pc' := 10) (v := v21) kc_12_9 rfl ev21 ?_
    refine xcps4 (xj_set (v := v21) hy19 ry19 1 (by first | omega | decide) (by first | omega | decide)) (fun y22 s22 hy22 ry22 => ?_)
    refine xi_iastore (pc' := 11) (x' := y22) kc_12_10 rfl A19 rfl (xi_in (by decide) (by rw [hy19]; decide)) s22 (fun hh22 eh22 => ?_)
    have K23 := xk_pa K17 (xk_wa rfl) xD_140 hy22 ry22 eh22
    refine xi_iload_n (pc' := 12) (x := (-1)) kc_12_11 rfl rfl ?_
    refine xi_ireturn kc_12_12 mr_12 rfl ?_
    show xw J ov (d + 2) 15 (27, [(0, .ref 115), (1, .int x1), (2, .int x2), (3, .int x3)], [.int (-1)], hh22) _
    refine xi_ireturn kc_15_27 mr_15 rfl ?_
    have zcm1 : ((-1) : Int32).toInt = (-1) := by decide
    exact kk (-1) hh22 K23
  · refine xi_cmf (pc' := 5) kc_11_2 rfl (xc_lt_f (X := x1.toInt) (Y := 0) rfl (by decide) (by omega)) ?_
    refine xi_iload_n (pc' := 6) (x := x1) kc_11_5 rfl rfl ?_
    refine xi_iload_n (pc' := 7) (x := 5) kc_11_6 rfl rfl ?_
    by_cases c24 : 5 < x1.toInt
    · refine xi_cmt (pc' := 14) kc_11_7 rfl (xc_gt_t (X := x1.toInt) (Y := 5) rfl (by decide) (by omega)) ?_
      refine xi_iconst (pc' := 15) (v := 0) kc_11_14 rfl rfl ?_
      refine xi_ireturn kc_11_15 mr_11 rfl ?_
      show xw J ov (d + 1) 10 (6, [(0, .int x1)], [.int 0], hh16) _
      refine xi_ireturn kc_10_6 mr_10 rfl ?_
      show xw J ov (d + 2) 15 (9, [(0, .ref 115), (1, .int x1), (2, .int x2), (3, .int x3)], [.int 0], hh16) _
      refine xi_ift (pc' := 22) kc_15_9 rfl rfl ?_
      refine xi_aload_n (pc' := 23) (x := 115) kc_15_22 rfl rfl ?_
      refine xi_iconst (pc' := 24) (v := (-1)) kc_15_23 rfl rfl ?_
      refine xi_virtual (mj := 12) (as := [.int (-1)]) (st1 := []) (lv0 := [(0, .ref 115), (1, .int (-1))]) kc_15_24 rfl rfl rfl rfl rfl eh15.1 (Nat.le_of_ble_eq_true rfl) (hJ _ _ _ _ (by decide)) (xm_le ml_12 rfl) rfl ?_
      refine xi_aload_n (pc' := 1) (x := 115) kc_12_0 rfl rfl ?_
      refine xi_getfield (pc' := 4) (v := .ref 140) kc_12_1 rfl rfl rfl eh15.1 rfl ?_
      refine xi_iload_n (pc' := 5) (x := (-1)) kc_12_4 rfl rfl ?_
      refine xi_ineg (pc' := 6) (v := 1) kc_12_5 rfl rfl ?_
      refine xi_dup2 (pc' := 7) kc_12_6 rfl ⟨rfl, rfl⟩ ?_
      refine xcps4 (xk_arr K17.1 xD_140) (fun y25 A25 hy25 ry25 => ?_)
      refine xcps4 (xj_get hy25 ry25 (i := 1) (by decide) (by decide)) (fun v26 ev26 bv26 dv26 => ?_)
      refine xi_iaload (pc' := 8) (v := v26) kc_12_7 rfl A25 (by decide) rfl (xi_in (by decide) (by rw [hy25]; decide)) ev26 ?_
      refine xi_iconst (pc' := 9) (v := 1) kc_12_8 rfl rfl ?_
      refine xcps2 (α := Int32) ((v26 : Int32) + 1) (fun v27 ev27 => ?_)
      have rv27 := xc_rng v27
      refine xi_iadd (pc' := 10) (v := v27) kc_12_9 rfl ev27 ?_
      refine xcps4 (xj_set (v := v27) hy25 ry25 1 (by first | omega | decide) (by first | omega | decide)) (fun y28 s28 hy28 ry28 => ?_)
      refine xi_iastore (pc' := 11) (x' := y28) kc_12_10 rfl A25 rfl (xi_in (by decide) (by rw [hy25]; decide)) s28 (fun hh28 eh28 => ?_)
      have K29 := xk_pa K17 (xk_wa rfl) xD_140 hy28 ry28 eh28
      refine xi_iload_n (pc' := 12) (x := (-1)) kc_12_11 rfl rfl ?_
      refine xi_ireturn kc_12_12 mr_12 rfl ?_
      show xw J ov (d + 2) 15 (27, [(0, .ref 115), (1, .int x1), (2, .int x2), (3, .int x3)], [.int (-1)], hh28) _
      refine xi_ireturn kc_15_27 mr_15 rfl ?_
      have zcm1 : ((-1) : Int32).toInt = (-1) := by decide
      exact kk (-1) hh28 K29
    · refine xi_cmf (pc' := 10) kc_11_7 rfl (xc_gt_f (X := x1.toInt) (Y := 5) rfl (by decide) (by omega)) ?_
      refine xi_iconst (pc' := 11) (v := 1) kc_11_10 rfl rfl ?_
      refine xi_goto (pc' := 15) kc_11_11 rfl ?_
      refine xi_ireturn kc_11_15 mr_11 rfl ?_
      show xw J ov (d + 1) 10 (6, [(0, .int x1)], [.int 1], hh16) _
      refine xi_ireturn kc_10_6 mr_10 rfl ?_
      show xw J ov (d + 2) 15 (9, [(0, .ref 115), (1, .int x1), (2, .int x2), (3, .int x3)], [.int 1], hh16) _
      refine xi_iff (pc' := 12) kc_15_9 rfl rfl ?_
      refine xi_iload_n (pc' := 13) (x := x2) kc_15_12 rfl rfl ?_
      refine xi_iconst (pc' := 14) (v := 0) kc_15_13 rfl rfl ?_
      refine xi_bipush (pc' := 16) (v := 23) kc_15_14 rfl rfl ?_
      refine xi_static (mj := 11) (as := [.int x2, .int 0, .int 23]) (st1 := []) (lv0 := [(0, .int x2), (1, .int 0), (2, .int 23)]) kc_15_16 rfl rfl (Nat.le_of_ble_eq_true rfl) rfl rfl (Nat.le_of_ble_eq_true rfl) (hJ _ _ _ _ (by decide)) (xm_le ml_11 rfl) rfl ?_
      refine xi_iload_n (pc' := 1) (x := x2) kc_11_0 rfl rfl ?_
      refine xi_iload_n (pc' := 2) (x := 0) kc_11_1 rfl rfl ?_
      by_cases c30 : x2.toInt < 0
      · refine xi_cmt (pc' := 14) kc_11_2 rfl (xc_lt_t (X := x2.toInt) (Y := 0) rfl (by decide) (by omega)) ?_
        refine xi_iconst (pc' := 15) (v := 0) kc_11_14 rfl rfl ?_
        refine xi_ireturn kc_11_15 mr_11 rfl ?_
        show xw J ov (d + 2) 15 (19, [(0, .ref 115), (1, .int x1), (2, .int x2), (3, .int x3)], [.int 0], hh16) _
        refine xi_iff (pc' := 22) kc_15_19 rfl rfl ?_
        refine xi_aload_n (pc' := 23) (x := 115) kc_15_22 rfl rfl ?_
        refine xi_iconst (pc' := 24) (v := (-1)) kc_15_23 rfl rfl ?_
        refine xi_virtual (mj := 12) (as := [.int (-1)]) (st1 := []) (lv0 := [(0, .ref 115), (1, .int (-1))]) kc_15_24 rfl rfl rfl rfl rfl eh15.1 (Nat.le_of_ble_eq_true rfl) (hJ _ _ _ _ (by decide)) (xm_le ml_12 rfl) rfl ?_
        refine xi_aload_n (pc' := 1) (x := 115) kc_12_0 rfl rfl ?_
        refine xi_getfield (pc' := 4) (v := .ref 140) kc_12_1 rfl rfl rfl eh15.1 rfl ?_
        refine xi_iload_n (pc' := 5) (x := (-1)) kc_12_4 rfl rfl ?_
        refine xi_ineg (pc' := 6) (v := 1) kc_12_5 rfl rfl ?_
        refine xi_dup2 (pc' := 7) kc_12_6 rfl ⟨rfl, rfl⟩ ?_
        refine xcps4 (xk_arr K17.1 xD_140) (fun y31 A31 hy31 ry31 => ?_)
        refine xcps4 (xj_get hy31 ry31 (i := 1) (by decide) (by decide)) (fun v32 ev32 bv32 dv32 => ?_)
        refine xi_iaload (pc' := 8) (v := v32) kc_12_7 rfl A31 (by decide) rfl (xi_in (by decide) (by rw [hy31]; decide)) ev32 ?_
        refine xi_iconst (pc' := 9) (v := 1) kc_12_8 rfl rfl ?_
        refine xcps2 (α := Int32) ((v32 : Int32) + 1) (fun v33 ev33 => ?_)
        have rv33 := xc_rng v33
        refine xi_iadd (pc' := 10) (v := v33) kc_12_9 rfl ev33 ?_
        refine xcps4 (xj_set (v := v33) hy31 ry31 1 (by first | omega | decide) (by first | omega | decide)) (fun y34 s34 hy34 ry34 => ?_)
        refine xi_iastore (pc' := 11) (x' := y34) kc_12_10 rfl A31 rfl (xi_in (by decide) (by rw [hy31]; decide)) s34 (fun hh34 eh34 => ?_)
        have K35 := xk_pa K17 (xk_wa rfl) xD_140 hy34 ry34 eh34
        refine xi_iload_n (pc' := 12) (x := (-1)) kc_12_11 rfl rfl ?_
        refine xi_ireturn kc_12_12 mr_12 rfl ?_
        show xw J ov (d + 2) 15 (27, [(0, .ref 115), (1, .int x1), (2, .int x2), (3, .int x3)], [.int (-1)], hh34) _
        refine xi_ireturn kc_15_27 mr_15 rfl ?_
        have zcm1 : ((-1) : Int32).toInt = (-1) := by decide
        exact kk (-1) hh34 K35
      · refine xi_cmf (pc' := 5) kc_11_2 rfl (xc_lt_f (X := x2.toInt) (Y := 0) rfl (by decide) (by omega)) ?_
        refine xi_iload_n (pc' := 6) (x := x2) kc_11_5 rfl rfl ?_
        refine xi_iload_n (pc' := 7) (x := 23) kc_11_6 rfl rfl ?_
        by_cases c36 : 23 < x2.toInt
        · refine xi_cmt (pc' := 14) kc_11_7 rfl (xc_gt_t (X := x2.toInt) (Y := 23) rfl (by decide) (by omega)) ?_
          refine xi_iconst (pc' := 15) (v := 0) kc_11_14 rfl rfl ?_
          refine xi_ireturn kc_11_15 mr_11 rfl ?_
          show xw J ov (d + 2) 15 (19, [(0, .ref 115), (1, .int x1), (2, .int x2), (3, .int x3)], [.int 0], hh16) _
          refine xi_iff (pc' := 22) kc_15_19 rfl rfl ?_
          refine xi_aload_n (pc' := 23) (x := 115) kc_15_22 rfl rfl ?_
          refine xi_iconst (pc' := 24) (v := (-1)) kc_15_23 rfl rfl ?_
          refine xi_virtual (mj := 12) (as := [.int (-1)]) (st1 := []) (lv0 := [(0, .ref 115), (1, .int (-1))]) kc_15_24 rfl rfl rfl rfl rfl eh15.1 (Nat.le_of_ble_eq_true rfl) (hJ _ _ _ _ (by decide)) (xm_le ml_12 rfl) rfl ?_
          refine xi_aload_n (pc' := 1) (x := 115) kc_12_0 rfl rfl ?_
          refine xi_getfield (pc' := 4) (v := .ref 140) kc_12_1 rfl rfl rfl eh15.1 rfl ?_
          refine xi_iload_n (pc' := 5) (x := (-1)) kc_12_4 rfl rfl ?_
          refine xi_ineg (pc' := 6) (v := 1) kc_12_5 rfl rfl ?_
          refine xi_dup2 (pc' := 7) kc_12_6 rfl ⟨rfl, rfl⟩ ?_
          refine xcps4 (xk_arr K17.1 xD_140) (fun y37 A37 hy37 ry37 => ?_)
          refine xcps4 (xj_get hy37 ry37 (i := 1) (by decide) (by decide)) (fun v38 ev38 bv38 dv38 => ?_)
          refine xi_iaload (pc' := 8) (v := v38) kc_12_7 rfl A37 (by decide) rfl (xi_in (by decide) (by rw [hy37]; decide)) ev38 ?_
          refine xi_iconst (pc' := 9) (v := 1) kc_12_8 rfl rfl ?_
          refine xcps2 (α := Int32) ((v38 : Int32) + 1) (fun v39 ev39 => ?_)
          have rv39 := xc_rng v39
          refine xi_iadd (pc' := 10) (v := v39) kc_12_9 rfl ev39 ?_
          refine xcps4 (xj_set (v := v39) hy37 ry37 1 (by first | omega | decide) (by first | omega | decide)) (fun y40 s40 hy40 ry40 => ?_)
          refine xi_iastore (pc' := 11) (x' := y40) kc_12_10 rfl A37 rfl (xi_in (by decide) (by rw [hy37]; decide)) s40 (fun hh40 eh40 => ?_)
          have K41 := xk_pa K17 (xk_wa rfl) xD_140 hy40 ry40 eh40
          refine xi_iload_n (pc' := 12) (x := (-1)) kc_12_11 rfl rfl ?_
          refine xi_ireturn kc_12_12 mr_12 rfl ?_
          show xw J ov (d + 2) 15 (27, [(0, .ref 115), (1, .int x1), (2, .int x2), (3, .int x3)], [.int (-1)], hh40) _
          refine xi_ireturn kc_15_27 mr_15 rfl ?_
          have zcm1 : ((-1) : Int32).toInt = (-1) := by decide
          exact kk (-1) hh40 K41
        · refine xi_cmf (pc' := 10) kc_11_7 rfl (xc_gt_f (X := x2.toInt) (Y := 23) rfl (by decide) (by omega)) ?_
          refine xi_iconst (pc' := 11) (v := 1) kc_11_10 rfl rfl ?_
          refine xi_goto (pc' := 15) kc_11_11 rfl ?_
          refine xi_ireturn kc_11_15 mr_11 rfl ?_
          show xw J ov (d + 2) 15 (19, [(0, .ref 115), (1, .int x1), (2, .int x2), (3, .int x3)], [.int 1], hh16) _
          refine xi_ift (pc' := 28) kc_15_19 rfl rfl ?_
          refine xi_iload_n (pc' := 29) (x := x3) kc_15_28 rfl rfl ?_
          by_cases c42 : 0 ≤ x3.toInt
          · refine xi_ift (pc' := 39) kc_15_29 rfl (xc_ge_t (X := x3.toInt) (Y := 0) rfl (by decide) (by omega)) ?_
            refine xi_iload_n (pc' := 40) (x := x3) kc_15_39 rfl rfl ?_
            refine xi_sipush (pc' := 43) (v := 999) kc_15_40 rfl rfl ?_
            by_cases c43 : x3.toInt ≤ 999
            · refine xi_cmt (pc' := 53) kc_15_43 rfl (xc_le_t (X := x3.toInt) (Y := 999) rfl (by decide) (by omega)) ?_
              refine xi_aload_n (pc' := 54) (x := 115) kc_15_53 rfl rfl ?_
              refine xi_getfield (pc' := 57) (v := .ref 122) kc_15_54 rfl rfl rfl eh15.1 rfl ?_
              refine xi_bipush (pc' := 59) (v := 24) kc_15_57 rfl rfl ?_
              refine xi_iload_n (pc' := 60) (x := x1) kc_15_59 rfl rfl ?_
              refine xcps2 (α := Int32) (24 * x1) (fun v44 ev44 => ?_)
              have zv44 : v44.toInt = (24) * x1.toInt := by rw [← ev44]; exact (xz_mul (X := 24) (Y := x1.toInt) (by decide) rfl (by omega) (by omega)).trans (by omega)
              refine xi_imul (pc' := 61) (v := v44) kc_15_60 rfl ev44 ?_
              refine xi_iload_n (pc' := 62) (x := x2) kc_15_61 rfl rfl ?_
              refine xcps2 (α := Int32) (v44 + x2) (fun v45 ev45 => ?_)
              have zv45 : v45.toInt = ((24) * x1.toInt + x2.toInt) := by rw [← ev45]; exact (xz_add (X := (24) * x1.toInt) (Y := x2.toInt) zv44 rfl (by omega) (by omega)).trans (by omega)
              refine xi_iadd (pc' := 63) (v := v45) kc_15_62 rfl ev45 ?_
              refine xcps4 (xk_arr K17.1 xD_122) (fun y46 A46 hy46 ry46 => ?_)
              refine xcps4 (xj_get hy46 ry46 (i := v45) (by rw [zv45]; omega) (by rw [zv45]; omega)) (fun v47 ev47 bv47 dv47 => ?_)
              refine xi_iaload (pc' := 64) (v := v47) kc_15_63 rfl A46 (by decide) rfl (xi_in (by rw [zv45]; omega) (by rw [hy46]; rw [zv45]; omega)) ev47 ?_
              refine xi_istore (pc' := 66) (lv' := [(4, .int v47), (0, .ref 115), (1, .int x1), (2, .int x2), (3, .int x3)]) kc_15_64 rfl rfl (xm_lt ml_15 rfl) ?_
              refine xi_aload_n (pc' := 67) (x := 115) kc_15_66 rfl rfl ?_
              refine xi_getfield (pc' := 70) (v := .ref 122) kc_15_67 rfl rfl rfl eh15.1 rfl ?_
              refine xi_bipush (pc' := 72) (v := 24) kc_15_70 rfl rfl ?_
              refine xi_iload_n (pc' := 73) (x := x1) kc_15_72 rfl rfl ?_
              refine xi_imul (pc' := 74) (v := v44) kc_15_73 rfl ev44 ?_
              refine xi_iload_n (pc' := 75) (x := x2) kc_15_74 rfl rfl ?_
              refine xi_iadd (pc' := 76) (v := v45) kc_15_75 rfl ev45 ?_
              refine xi_iload_n (pc' := 77) (x := x3) kc_15_76 rfl rfl ?_
              refine xcps4 (xj_set (v := x3) hy46 ry46 v45 (by first | omega | decide) (by first | omega | decide)) (fun y48 s48 hy48 ry48 => ?_)
              refine xi_iastore (pc' := 78) (x' := y48) kc_15_77 rfl A46 rfl (xi_in (by rw [zv45]; omega) (by rw [hy46]; rw [zv45]; omega)) s48 (fun hh48 eh48 => ?_)
              have K49 := xk_pa K17 (xk_wa rfl) xD_122 hy48 ry48 eh48
              refine xi_aload_n (pc' := 79) (x := 115) kc_15_78 rfl rfl ?_
              refine xi_iconst (pc' := 80) (v := 0) kc_15_79 rfl rfl ?_
              have A50 := ((eh48.2.1 115 (by decide)).trans eh15.1)
              refine xi_putfield (pc' := 83) (fs' := [.int 0, .int u2, .ref 116, .ref 117, .ref 118, .ref 119, .ref 120, .ref 121, .ref 122, .ref 123, .ref 124, .ref 125, .ref 126, .ref 127, .ref 128, .ref 129, .int u3, .ref 130, .int u4, .ref 131, .ref 132, .ref 133, .ref 134, .int u5, .ref 135, .ref 136, .ref 137, .ref 138, .ref 139, .ref 140, .ref 141, .ref 142, .int u6, .int u7, .int u8, .ref 143, .ref 144, .ref 145, .ref 146, .ref 147, .ref 148, .int 0, .ref 149, .ref 150, .ref 151, .int u10, .ref 152, .ref 153, .ref 154, .ref 155, .ref 156, .ref 157, .ref 158, .ref 159, .int u11, .ref 160, .int u12, .ref 161, .ref 162, .ref 163, .ref 164, .int u13, .ref 165, .ref 166]) kc_15_80 rfl rfl rfl A50 rfl rfl rfl (Nat.le_of_ble_eq_true rfl) rfl (fun hh52 eh51 => ?_)
              have K53 := xk_pf (k := 41) (v := 0) K49 (xk_wf rfl) xD_115 A50 rfl (by first | omega | decide) (by first | omega | decide) eh51 rfl
              refine xi_iload (pc' := 85) (x := v47) kc_15_83 rfl rfl ?_
              refine xi_ireturn kc_15_85 mr_15 rfl ?_
              exact kk v47 hh52 K53
            · refine xi_cmf (pc' := 46) kc_15_43 rfl (xc_le_f (X := x3.toInt) (Y := 999) rfl (by decide) (by omega)) ?_
              refine xi_aload_n (pc' := 47) (x := 115) kc_15_46 rfl rfl ?_
              refine xi_bipush (pc' := 49) (v := (-6)) kc_15_47 rfl rfl ?_
              refine xi_virtual (mj := 12) (as := [.int (-6)]) (st1 := []) (lv0 := [(0, .ref 115), (1, .int (-6))]) kc_15_49 rfl rfl rfl rfl rfl eh15.1 (Nat.le_of_ble_eq_true rfl) (hJ _ _ _ _ (by decide)) (xm_le ml_12 rfl) rfl ?_
              refine xi_aload_n (pc' := 1) (x := 115) kc_12_0 rfl rfl ?_
              refine xi_getfield (pc' := 4) (v := .ref 140) kc_12_1 rfl rfl rfl eh15.1 rfl ?_
              refine xi_iload_n (pc' := 5) (x := (-6)) kc_12_4 rfl rfl ?_
              refine xi_ineg (pc' := 6) (v := 6) kc_12_5 rfl rfl ?_
              refine xi_dup2 (pc' := 7) kc_12_6 rfl ⟨rfl, rfl⟩ ?_
              refine xcps4 (xk_arr K17.1 xD_140) (fun y54 A54 hy54 ry54 => ?_)
              refine xcps4 (xj_get hy54 ry54 (i := 6) (by decide) (by decide)) (fun v55 ev55 bv55 dv55 => ?_)
              refine xi_iaload (pc' := 8) (v := v55) kc_12_7 rfl A54 (by decide) rfl (xi_in (by decide) (by rw [hy54]; decide)) ev55 ?_
              refine xi_iconst (pc' := 9) (v := 1) kc_12_8 rfl rfl ?_
              refine xcps2 (α := Int32) ((v55 : Int32) + 1) (fun v56 ev56 => ?_)
              have rv56 := xc_rng v56
              refine xi_iadd (pc' := 10) (v := v56) kc_12_9 rfl ev56 ?_
              refine xcps4 (xj_set (v := v56) hy54 ry54 6 (by first | omega | decide) (by first | omega | decide)) (fun y57 s57 hy57 ry57 => ?_)
              refine xi_iastore (pc' := 11) (x' := y57) kc_12_10 rfl A54 rfl (xi_in (by decide) (by rw [hy54]; decide)) s57 (fun hh57 eh57 => ?_)
              have K58 := xk_pa K17 (xk_wa rfl) xD_140 hy57 ry57 eh57
              refine xi_iload_n (pc' := 12) (x := (-6)) kc_12_11 rfl rfl ?_
              refine xi_ireturn kc_12_12 mr_12 rfl ?_
              show xw J ov (d + 2) 15 (52, [(0, .ref 115), (1, .int x1), (2, .int x2), (3, .int x3)], [.int (-6)], hh57) _
              refine xi_ireturn kc_15_52 mr_15 rfl ?_
              have zcm6 : ((-6) : Int32).toInt = (-6) := by decide
              exact kk (-6) hh57 K58
          · refine xi_iff (pc' := 32) kc_15_29 rfl (xc_ge_f (X := x3.toInt) (Y := 0) rfl (by decide) (by omega)) ?_
            refine xi_aload_n (pc' := 33) (x := 115) kc_15_32 rfl rfl ?_
            refine xi_bipush (pc' := 35) (v := (-4)) kc_15_33 rfl rfl ?_
            refine xi_virtual (mj := 12) (as := [.int (-4)]) (st1 := []) (lv0 := [(0, .ref 115), (1, .int (-4))]) kc_15_35 rfl rfl rfl rfl rfl eh15.1 (Nat.le_of_ble_eq_true rfl) (hJ _ _ _ _ (by decide)) (xm_le ml_12 rfl) rfl ?_
            refine xi_aload_n (pc' := 1) (x := 115) kc_12_0 rfl rfl ?_
            refine xi_getfield (pc' := 4) (v := .ref 140) kc_12_1 rfl rfl rfl eh15.1 rfl ?_
            refine xi_iload_n (pc' := 5) (x := (-4)) kc_12_4 rfl rfl ?_
            refine xi_ineg (pc' := 6) (v := 4) kc_12_5 rfl rfl ?_
            refine xi_dup2 (pc' := 7) kc_12_6 rfl ⟨rfl, rfl⟩ ?_
            refine xcps4 (xk_arr K17.1 xD_140) (fun y59 A59 hy59 ry59 => ?_)
            refine xcps4 (xj_get hy59 ry59 (i := 4) (by decide) (by decide)) (fun v60 ev60 bv60 dv60 => ?_)
            refine xi_iaload (pc' := 8) (v := v60) kc_12_7 rfl A59 (by decide) rfl (xi_in (by decide) (by rw [hy59]; decide)) ev60 ?_
            refine xi_iconst (pc' := 9) (v := 1) kc_12_8 rfl rfl ?_
            refine xcps2 (α := Int32) ((v60 : Int32) + 1) (fun v61 ev61 => ?_)
            have rv61 := xc_rng v61
            refine xi_iadd (pc' := 10) (v := v61) kc_12_9 rfl ev61 ?_
            refine xcps4 (xj_set (v := v61) hy59 ry59 4 (by first | omega | decide) (by first | omega | decide)) (fun y62 s62 hy62 ry62 => ?_)
            refine xi_iastore (pc' := 11) (x' := y62) kc_12_10 rfl A59 rfl (xi_in (by decide) (by rw [hy59]; decide)) s62 (fun hh62 eh62 => ?_)
            have K63 := xk_pa K17 (xk_wa rfl) xD_140 hy62 ry62 eh62
            refine xi_iload_n (pc' := 12) (x := (-4)) kc_12_11 rfl rfl ?_
            refine xi_ireturn kc_12_12 mr_12 rfl ?_
            show xw J ov (d + 2) 15 (38, [(0, .ref 115), (1, .int x1), (2, .int x2), (3, .int x3)], [.int (-4)], hh62) _
            refine xi_ireturn kc_15_38 mr_15 rfl ?_
            have zcm4 : ((-4) : Int32).toInt = (-4) := by decide
            exact kk (-4) hh62 K63
set_option maxHeartbeats 4000000 in
theorem lp_153_0 {J : xe_J} {ov : List (List Int32)} (hJ : ∀ d mj as h, mj ≠ xe_loff → J d mj as h = none) (hov1 : ov[1]? = some [10, 0, 0, 0, 0, 0]) (hov2 : ov[2]? = some [99, 30, 50, 50, 1, 99999]) {d : Nat} {Q : Option Value → xe_H → Prop} {hb : xe_H} (kk : (∀ (r : Int64) (h' : xe_H), xk [(0, 9), (115, 1), (83, 0), (29, 0), (31, 0), (33, 0), (35, 0), (37, 0), (39, 0), (41, 0), (43, 0), (45, 0), (47, 0), (49, 0), (51, 0), (125, 0), (66, 8), (115, 18), (71, 0), (132, 0)] hb h' → Q (some (.long r)) h')) : ∀ m : Nat, (∀ (w1 : Int64) (x3 : Int32) (h : xe_H), (0 ≤ x3.toInt ∧ x3.toInt ≤ 64) → xk [(0, 9), (115, 1), (83, 0), (29, 0), (31, 0), (33, 0), (35, 0), (37, 0), (39, 0), (41, 0), (43, 0), (45, 0), (47, 0), (49, 0), (51, 0), (125, 0), (66, 8), (115, 18), (71, 0), (132, 0)] hb h → (-1) * x3.toInt + 64 < (m : Int) → xw J ov (d + 6) 153 (4, [(0, .ref 66), (1, .long w1), (3, .int x3)], [], h) Q) := by
  intro m
  induction m with
  | zero =>
    intro w1 x3 h b3 K hm; exfalso; omega
  | succ m ih =>
    have i0 := ih
    intro w1 x3 h b3 K hm
    refine xi_iload_n (pc' := 5) (x := x3) kc_153_4 rfl rfl ?_
    refine xi_aload_n (pc' := 6) (x := 66) kc_153_5 rfl rfl ?_
    refine xp_66 K.1 (fun u2 wl1 bu2 A3 => ?_)
    refine xi_virtual (mj := 139) (as := []) (st1 := [.int x3]) (lv0 := [(0, .ref 66)]) kc_153_6 rfl rfl rfl rfl rfl A3 (Nat.le_of_ble_eq_true rfl) (hJ _ _ _ _ (by decide)) (xm_le ml_139 rfl) rfl ?_
    refine xi_iconst (pc' := 1) (v := 1) kc_139_0 rfl rfl ?_
    refine xi_aload_n (pc' := 2) (x := 66) kc_139_1 rfl rfl ?_
    refine xi_getfield (pc' := 5) (v := .ref 1) kc_139_2 rfl rfl rfl A3 rfl ?_
    refine xp_1 K.1 (fun u4 u5 bu4 bu5 A6 => ?_)
    refine xi_virtual (mj := 140) (as := []) (st1 := [.int 1]) (lv0 := [(0, .ref 1)]) kc_139_5 rfl rfl rfl rfl rfl A6 (Nat.le_of_ble_eq_true rfl) (hJ _ _ _ _ (by decide)) (xm_le ml_140 rfl) rfl ?_
    refine xi_aload_n (pc' := 1) (x := 1) kc_140_0 rfl rfl ?_
    refine xi_getfield (pc' := 4) (v := .int u4) kc_140_1 rfl rfl rfl A6 rfl ?_
    refine xi_bipush (pc' := 6) (v := 6) kc_140_4 rfl rfl ?_
    by_cases c7 : 6 ≤ u4.toInt
    · refine xi_cmt (pc' := 16) kc_140_6 rfl (xc_ge_t (X := u4.toInt) (Y := 6) rfl (by decide) (by omega)) ?_
      refine xi_bipush (pc' := 18) (v := 6) kc_140_16 rfl rfl ?_
      refine xi_ireturn kc_140_18 mr_140 rfl ?_
      show xw J ov (d + 5) 139 (8, [(0, .ref 66)], [.int 6, .int 1], h) _
      refine xi_ishl (pc' := 9) (v := 64) kc_139_8 rfl rfl ?_
      refine xi_ireturn kc_139_9 mr_139 rfl ?_
      show xw J ov (d + 6) 153 (9, [(0, .ref 66), (1, .long w1), (3, .int x3)], [.int 64, .int x3], h) _
      by_cases c8 : 64 ≤ x3.toInt
      · refine xi_cmt (pc' := 34) kc_153_9 rfl (xc_ge_t (X := x3.toInt) (Y := 64) rfl (by decide) (by omega)) ?_
        refine xi_lload_n (pc' := 35) (x := w1) kc_153_34 rfl rfl ?_
        refine xi_lreturn kc_153_35 mr_153 ?_
        exact kk w1 h K
      · refine xi_cmf (pc' := 12) kc_153_9 rfl (xc_ge_f (X := x3.toInt) (Y := 64) rfl (by decide) (by omega)) ?_
        refine xi_aload_n (pc' := 13) (x := 66) kc_153_12 rfl rfl ?_
        refine xi_iload_n (pc' := 14) (x := x3) kc_153_13 rfl rfl ?_
        refine xi_virtual (mj := 146) (as := [.int x3]) (st1 := []) (lv0 := [(0, .ref 66), (1, .int x3)]) kc_153_14 rfl rfl rfl rfl rfl A3 (Nat.le_of_ble_eq_true rfl) (hJ _ _ _ _ (by decide)) (xm_le ml_146 rfl) rfl ?_
        refine mt_146_0 hJ hov1 hov2 (d := d) (x1 := x3) K.1 (fun r9 hh10 K11 => ?_)
        have K12 := xk_tr K K11 rfl
        refine xp_66 K12.1 (fun u14 wl13 bu14 A15 => ?_)
        have e16 : u2 = u14 := xk_eqi (q := 8) K11 rfl A3 A15 rfl rfl
        subst e16
        show xw J ov (d + 6) 153 (17, [(0, .ref 66), (1, .long w1), (3, .int x3)], [.long r9], hh10) _
        refine xi_lconst (pc' := 18) (v := 0) kc_153_17 rfl rfl ?_
        refine xcps2 (α := Int32) (lg_cmp r9 0) (fun v17 ev17 => ?_)
        have rv17 := xc_rng v17
        refine xi_lcmp (pc' := 19) (v := v17) kc_153_18 rfl ev17 ?_
        by_cases c18 : v17.toInt = 0
        · refine xi_iff (pc' := 22) kc_153_19 rfl (xc_ne_f (X := v17.toInt) (Y := 0) rfl (by decide) (by omega)) ?_
          refine xi_lload_n (pc' := 23) (x := w1) kc_153_22 rfl rfl ?_
          refine xi_lconst (pc' := 24) (v := 1) kc_153_23 rfl rfl ?_
          refine xi_iload_n (pc' := 25) (x := x3) kc_153_24 rfl rfl ?_
          refine xcps2 (α := Int64) ((1 : Int64) <<< ((x3 : Int32).toInt64 &&& 63)) (fun v19 ev19 => ?_)
          refine xi_lshl (pc' := 26) (v := v19) kc_153_25 rfl ev19 ?_
          refine xcps2 (α := Int64) ((w1 : Int64) ||| v19) (fun v20 ev20 => ?_)
          refine xi_lor (pc' := 27) (v := v20) kc_153_26 rfl ev20 ?_
          refine xi_lstore_n (pc' := 28) (lv' := [(1, .long v20), (0, .ref 66), (3, .int x3)]) kc_153_27 rfl rfl (xm_lt ml_153 rfl) ?_
          refine xcps2 (α := Int32) (x3 + 1) (fun v21 ev21 => ?_)
          have zv21 : v21.toInt = (x3.toInt + 1) := by rw [← ev21]; exact (xz_add (X := x3.toInt) (Y := 1) rfl (by decide) (by omega) (by omega)).trans (by omega)
          refine xi_iinc (pc' := 31) (x := x3) (v := v21) (lv' := [(3, .int v21), (1, .long v20), (0, .ref 66)]) kc_153_28 rfl rfl ev21 rfl (xm_lt ml_153 rfl) ?_
          refine xi_goto (pc' := 4) kc_153_31 rfl ?_
          refine xw_lv (b := [(0, .ref 66), (1, .long v20), (3, .int v21)]) (lvS_cons (lvS_cons (lvS_cons (lvS_nil (show ([3, 1, 0] : List Nat).Nodup by decide)) rfl) rfl) rfl) ?_
          exact i0 v20 v21 hh10 (by omega) K12 (by omega)
        · have zr9c18 : r9 ≠ 0 := xj_lc ev17 (by omega)
          refine xi_ift (pc' := 28) kc_153_19 rfl (xc_ne_t (X := v17.toInt) (Y := 0) rfl (by decide) (by omega)) ?_
          refine xcps2 (α := Int32) (x3 + 1) (fun v22 ev22 => ?_)
          have zv22 : v22.toInt = (x3.toInt + 1) := by rw [← ev22]; exact (xz_add (X := x3.toInt) (Y := 1) rfl (by decide) (by omega) (by omega)).trans (by omega)
          refine xi_iinc (pc' := 31) (x := x3) (v := v22) (lv' := [(3, .int v22), (0, .ref 66), (1, .long w1)]) kc_153_28 rfl rfl ev22 rfl (xm_lt ml_153 rfl) ?_
          refine xi_goto (pc' := 4) kc_153_31 rfl ?_
          refine xw_lv (b := [(0, .ref 66), (1, .long w1), (3, .int v22)]) (lvS_cons (lvS_cons (lvS_cons (lvS_nil (show ([3, 0, 1] : List Nat).Nodup by decide)) rfl) rfl) rfl) ?_
          exact i0 w1 v22 hh10 (by omega) K12 (by omega)
    · refine xi_cmf (pc' := 9) kc_140_6 rfl (xc_ge_f (X := u4.toInt) (Y := 6) rfl (by decide) (by omega)) ?_
      refine xi_aload_n (pc' := 10) (x := 1) kc_140_9 rfl rfl ?_
      refine xi_getfield (pc' := 13) (v := .int u4) kc_140_10 rfl rfl rfl A6 rfl ?_
      refine xi_goto (pc' := 18) kc_140_13 rfl ?_
      refine xi_ireturn kc_140_18 mr_140 rfl ?_
      show xw J ov (d + 5) 139 (8, [(0, .ref 66)], [.int u4, .int 1], h) _
      refine xcps2 (α := Int32) ((1 : Int32) <<< (u4 &&& 31)) (fun v23 ev23 => ?_)
      have rv23 := xc_rng v23
      have bv23 : 1 ≤ v23.toInt ∧ v23.toInt ≤ 64 := by rw [← ev23]; exact xj_shl6 (by omega) (by omega)
      refine xi_ishl (pc' := 9) (v := v23) kc_139_8 rfl ev23 ?_
      refine xi_ireturn kc_139_9 mr_139 rfl ?_
      show xw J ov (d + 6) 153 (9, [(0, .ref 66), (1, .long w1), (3, .int x3)], [.int v23, .int x3], h) _
      by_cases c24 : v23.toInt ≤ x3.toInt
      · refine xi_cmt (pc' := 34) kc_153_9 rfl (xc_ge_t (X := x3.toInt) (Y := v23.toInt) rfl rfl (by omega)) ?_
        refine xi_lload_n (pc' := 35) (x := w1) kc_153_34 rfl rfl ?_
        refine xi_lreturn kc_153_35 mr_153 ?_
        exact kk w1 h K
      · refine xi_cmf (pc' := 12) kc_153_9 rfl (xc_ge_f (X := x3.toInt) (Y := v23.toInt) rfl rfl (by omega)) ?_
        refine xi_aload_n (pc' := 13) (x := 66) kc_153_12 rfl rfl ?_
        refine xi_iload_n (pc' := 14) (x := x3) kc_153_13 rfl rfl ?_
        refine xi_virtual (mj := 146) (as := [.int x3]) (st1 := []) (lv0 := [(0, .ref 66), (1, .int x3)]) kc_153_14 rfl rfl rfl rfl rfl A3 (Nat.le_of_ble_eq_true rfl) (hJ _ _ _ _ (by decide)) (xm_le ml_146 rfl) rfl ?_
        refine mt_146_0 hJ hov1 hov2 (d := d) (x1 := x3) K.1 (fun r25 hh26 K27 => ?_)
        have K28 := xk_tr K K27 rfl
        refine xp_66 K28.1 (fun u30 wl29 bu30 A31 => ?_)
        have e32 : u2 = u30 := xk_eqi (q := 8) K27 rfl A3 A31 rfl rfl
        subst e32
        show xw J ov (d + 6) 153 (17, [(0, .ref 66), (1, .long w1), (3, .int x3)], [.long r25], hh26) _
        refine xi_lconst (pc' := 18) (v := 0) kc_153_17 rfl rfl ?_
        refine xcps2 (α := Int32) (lg_cmp r25 0) (fun v33 ev33 => ?_)
        have rv33 := xc_rng v33
        refine xi_lcmp (pc' := 19) (v := v33) kc_153_18 rfl ev33 ?_
        by_cases c34 : v33.toInt = 0
        · refine xi_iff (pc' := 22) kc_153_19 rfl (xc_ne_f (X := v33.toInt) (Y := 0) rfl (by decide) (by omega)) ?_
          refine xi_lload_n (pc' := 23) (x := w1) kc_153_22 rfl rfl ?_
          refine xi_lconst (pc' := 24) (v := 1) kc_153_23 rfl rfl ?_
          refine xi_iload_n (pc' := 25) (x := x3) kc_153_24 rfl rfl ?_
          refine xcps2 (α := Int64) ((1 : Int64) <<< ((x3 : Int32).toInt64 &&& 63)) (fun v35 ev35 => ?_)
          refine xi_lshl (pc' := 26) (v := v35) kc_153_25 rfl ev35 ?_
          refine xcps2 (α := Int64) ((w1 : Int64) ||| v35) (fun v36 ev36 => ?_)
          refine xi_lor (pc' := 27) (v := v36) kc_153_26 rfl ev36 ?_
          refine xi_lstore_n (pc' := 28) (lv' := [(1, .long v36), (0, .ref 66), (3, .int x3)]) kc_153_27 rfl rfl (xm_lt ml_153 rfl) ?_
          refine xcps2 (α := Int32) (x3 + 1) (fun v37 ev37 => ?_)
          have zv37 : v37.toInt = (x3.toInt + 1) := by rw [← ev37]; exact (xz_add (X := x3.toInt) (Y := 1) rfl (by decide) (by omega) (by omega)).trans (by omega)
          refine xi_iinc (pc' := 31) (x := x3) (v := v37) (lv' := [(3, .int v37), (1, .long v36), (0, .ref 66)]) kc_153_28 rfl rfl ev37 rfl (xm_lt ml_153 rfl) ?_
          refine xi_goto (pc' := 4) kc_153_31 rfl ?_
          refine xw_lv (b := [(0, .ref 66), (1, .long v36), (3, .int v37)]) (lvS_cons (lvS_cons (lvS_cons (lvS_nil (show ([3, 1, 0] : List Nat).Nodup by decide)) rfl) rfl) rfl) ?_
          exact i0 v36 v37 hh26 (by omega) K28 (by omega)
        · have zr25c34 : r25 ≠ 0 := xj_lc ev33 (by omega)
          refine xi_ift (pc' := 28) kc_153_19 rfl (xc_ne_t (X := v33.toInt) (Y := 0) rfl (by decide) (by omega)) ?_
          refine xcps2 (α := Int32) (x3 + 1) (fun v38 ev38 => ?_)
          have zv38 : v38.toInt = (x3.toInt + 1) := by rw [← ev38]; exact (xz_add (X := x3.toInt) (Y := 1) rfl (by decide) (by omega) (by omega)).trans (by omega)
          refine xi_iinc (pc' := 31) (x := x3) (v := v38) (lv' := [(3, .int v38), (0, .ref 66), (1, .long w1)]) kc_153_28 rfl rfl ev38 rfl (xm_lt ml_153 rfl) ?_
          refine xi_goto (pc' := 4) kc_153_31 rfl ?_
          refine xw_lv (b := [(0, .ref 66), (1, .long w1), (3, .int v38)]) (lvS_cons (lvS_cons (lvS_cons (lvS_nil (show ([3, 0, 1] : List Nat).Nodup by decide)) rfl) rfl) rfl) ?_
          exact i0 w1 v38 hh26 (by omega) K28 (by omega)
set_option maxHeartbeats 4000000 in
theorem mt_153_0 {J : xe_J} {ov : List (List Int32)} (hJ : ∀ d mj as h, mj ≠ xe_loff → J d mj as h = none) (hov1 : ov[1]? = some [10, 0, 0, 0, 0, 0]) (hov2 : ov[2]? = some [99, 30, 50, 50, 1, 99999]) {d : Nat} {Q : Option Value → xe_H → Prop} {h : xe_H} (T : xt h) (kk : (∀ (r : Int64) (h' : xe_H), xk [(0, 9), (115, 1), (83, 0), (29, 0), (31, 0), (33, 0), (35, 0), (37, 0), (39, 0), (41, 0), (43, 0), (45, 0), (47, 0), (49, 0), (51, 0), (125, 0), (66, 8), (115, 18), (71, 0), (132, 0)] h h' → Q (some (.long r)) h')) : xw J ov (d + 6) 153 (0, [(0, .ref 66)], [], h) Q := by
  have K : xk [(0, 9), (115, 1), (83, 0), (29, 0), (31, 0), (33, 0), (35, 0), (37, 0), (39, 0), (41, 0), (43, 0), (45, 0), (47, 0), (49, 0), (51, 0), (125, 0), (66, 8), (115, 18), (71, 0), (132, 0)] h h := xk_re T
  refine xi_lconst (pc' := 1) (v := 0) kc_153_0 rfl rfl ?_
  refine xi_lstore_n (pc' := 2) (lv' := [(1, .long 0), (0, .ref 66)]) kc_153_1 rfl rfl (xm_lt ml_153 rfl) ?_
  refine xi_iconst (pc' := 3) (v := 0) kc_153_2 rfl rfl ?_
  refine xi_istore_n (pc' := 4) (lv' := [(3, .int 0), (1, .long 0), (0, .ref 66)]) kc_153_3 rfl rfl (xm_lt ml_153 rfl) ?_
  have zc0 : (0 : Int32).toInt = 0 := by decide
  refine xw_lv (b := [(0, .ref 66), (1, .long 0), (3, .int 0)]) (lvS_cons (lvS_cons (lvS_cons (lvS_nil (show ([3, 1, 0] : List Nat).Nodup by decide)) rfl) rfl) rfl) ?_
  exact (lp_153_0 hJ hov1 hov2 (d := d) (hb := h) (fun r9 h9 K9 => kk r9 h9 (xk_tr K K9 rfl)) 65) 0 0 h (by omega) (xk_re K.1) (by omega)
set_option maxHeartbeats 4000000 in
theorem lp_154_0 {J : xe_J} {ov : List (List Int32)} (hJ : ∀ d mj as h, mj ≠ xe_loff → J d mj as h = none) (hov1 : ov[1]? = some [10, 0, 0, 0, 0, 0]) (hov2 : ov[2]? = some [99, 30, 50, 50, 1, 99999]) {d : Nat} {Q : Option Value → xe_H → Prop} {hb : xe_H} (kk : (∀ (r : Int64) (h' : xe_H), xk [(0, 9), (115, 1), (83, 0), (29, 0), (31, 0), (33, 0), (35, 0), (37, 0), (39, 0), (41, 0), (43, 0), (45, 0), (47, 0), (49, 0), (51, 0), (125, 0), (66, 8), (115, 18), (71, 0), (132, 0)] hb h' → Q (some (.long r)) h')) : ∀ m : Nat, (∀ (w3 : Int64) (x5 : Int32) (h : xe_H), (0 ≤ x5.toInt ∧ x5.toInt ≤ 8) → xk [(0, 9), (115, 1), (83, 0), (29, 0), (31, 0), (33, 0), (35, 0), (37, 0), (39, 0), (41, 0), (43, 0), (45, 0), (47, 0), (49, 0), (51, 0), (125, 0), (66, 8), (115, 18), (71, 0), (132, 0)] hb h → (-1) * x5.toInt + 8 < (m : Int) → xw J ov (d + 1) 154 (5, [(0, .ref 75), (3, .long w3), (5, .int x5)], [], h) Q) := by
  intro m
  induction m with
  | zero =>
    intro w3 x5 h b5 K hm; exfalso; omega
  | succ m ih =>
    have i0 := ih
    intro w3 x5 h b5 K hm
    refine xi_iload (pc' := 7) (x := x5) kc_154_5 rfl rfl ?_
    refine xi_aload_n (pc' := 8) (x := 75) kc_154_7 rfl rfl ?_
    refine xp_75 K.1 (fun u1 bu1 A2 => ?_)
    refine xi_getfield (pc' := 11) (v := .int u1) kc_154_8 rfl rfl rfl A2 rfl ?_
    by_cases c3 : u1.toInt ≤ x5.toInt
    · refine xi_cmt (pc' := 76) kc_154_11 rfl (xc_ge_t (X := x5.toInt) (Y := u1.toInt) rfl rfl (by omega)) ?_
      refine xi_lload_n (pc' := 77) (x := w3) kc_154_76 rfl rfl ?_
      refine xi_lreturn kc_154_77 mr_154 ?_
      exact kk w3 h K
    · refine xi_cmf (pc' := 14) kc_154_11 rfl (xc_ge_f (X := x5.toInt) (Y := u1.toInt) rfl rfl (by omega)) ?_
      refine xi_iload (pc' := 16) (x := x5) kc_154_14 rfl rfl ?_
      refine xi_bipush (pc' := 18) (v := 8) kc_154_16 rfl rfl ?_
      refine xi_cmf (pc' := 21) kc_154_18 rfl (xc_ge_f (X := x5.toInt) (Y := 8) rfl (by decide) (by omega)) ?_
      refine xi_aload_n (pc' := 22) (x := 75) kc_154_21 rfl rfl ?_
      refine xi_getfield (pc' := 25) (v := .ref 79) kc_154_22 rfl rfl rfl A2 rfl ?_
      refine xi_iload (pc' := 27) (x := x5) kc_154_25 rfl rfl ?_
      refine xcps4 (xk_arr K.1 xD_79) (fun y4 A4 hy4 ry4 => ?_)
      refine xcps4 (xj_get hy4 ry4 (i := x5) (by omega) (by omega)) (fun v5 ev5 bv5 dv5 => ?_)
      refine xi_iaload (pc' := 28) (v := v5) kc_154_27 rfl A4 (by decide) rfl (xi_in (by omega) (by rw [hy4]; omega)) ev5 ?_
      refine xi_iconst (pc' := 29) (v := 1) kc_154_28 rfl rfl ?_
      by_cases c6 : v5.toInt = 1
      · refine xi_cmf (pc' := 32) kc_154_29 rfl (xc_ne_f (X := v5.toInt) (Y := 1) rfl (by decide) (by omega)) ?_
        refine xi_lload_n (pc' := 33) (x := w3) kc_154_32 rfl rfl ?_
        refine xi_aload_n (pc' := 34) (x := 75) kc_154_33 rfl rfl ?_
        refine xi_getfield (pc' := 37) (v := .ref 76) kc_154_34 rfl rfl rfl A2 rfl ?_
        refine xi_iload (pc' := 39) (x := x5) kc_154_37 rfl rfl ?_
        obtain ⟨y7, A7, hy7⟩ := xk_larr K.1 xD_76
        refine xcps2 (α := Int64) (y7.getD (Int32.toNatClampNeg x5) 0) (fun v8 ev8 => ?_)
        refine xi_laload (pc' := 40) (v := v8) kc_154_39 rfl A7 rfl (xi_in (by omega) (by rw [hy7]; omega)) ev8 ?_
        refine xcps2 (α := Int64) ((w3 : Int64) &&& v8) (fun v9 ev9 => ?_)
        refine xi_land (pc' := 41) (v := v9) kc_154_40 rfl ev9 ?_
        refine xi_lstore_n (pc' := 42) (lv' := [(3, .long v9), (0, .ref 75), (5, .int x5)]) kc_154_41 rfl rfl (xm_lt ml_154 rfl) ?_
        refine xi_goto (pc' := 70) kc_154_42 rfl ?_
        refine xcps2 (α := Int32) (x5 + 1) (fun v10 ev10 => ?_)
        have zv10 : v10.toInt = (x5.toInt + 1) := by rw [← ev10]; exact (xz_add (X := x5.toInt) (Y := 1) rfl (by decide) (by omega) (by omega)).trans (by omega)
        refine xi_iinc (pc' := 73) (x := x5) (v := v10) (lv' := [(5, .int v10), (3, .long v9), (0, .ref 75)]) kc_154_70 rfl rfl ev10 rfl (xm_lt ml_154 rfl) ?_
        refine xi_goto (pc' := 5) kc_154_73 rfl ?_
        refine xw_lv (b := [(0, .ref 75), (3, .long v9), (5, .int v10)]) (lvS_cons (lvS_cons (lvS_cons (lvS_nil (show ([5, 3, 0] : List Nat).Nodup by decide)) rfl) rfl) rfl) ?_
        exact i0 v9 v10 h (by omega) K (by omega)
      · refine xi_cmt (pc' := 45) kc_154_29 rfl (xc_ne_t (X := v5.toInt) (Y := 1) rfl (by decide) (by omega)) ?_
        refine xi_aload_n (pc' := 46) (x := 75) kc_154_45 rfl rfl ?_
        refine xi_getfield (pc' := 49) (v := .ref 79) kc_154_46 rfl rfl rfl A2 rfl ?_
        refine xi_iload (pc' := 51) (x := x5) kc_154_49 rfl rfl ?_
        refine xi_iaload (pc' := 52) (v := v5) kc_154_51 rfl A4 (by decide) rfl (xi_in (by omega) (by rw [hy4]; omega)) ev5 ?_
        refine xi_iconst (pc' := 53) (v := 2) kc_154_52 rfl rfl ?_
        by_cases c11 : v5.toInt = 2
        · refine xi_cmf (pc' := 56) kc_154_53 rfl (xc_ne_f (X := v5.toInt) (Y := 2) rfl (by decide) (by omega)) ?_
          refine xi_lload_n (pc' := 57) (x := w3) kc_154_56 rfl rfl ?_
          refine xi_aload_n (pc' := 58) (x := 75) kc_154_57 rfl rfl ?_
          refine xi_getfield (pc' := 61) (v := .ref 76) kc_154_58 rfl rfl rfl A2 rfl ?_
          refine xi_iload (pc' := 63) (x := x5) kc_154_61 rfl rfl ?_
          obtain ⟨y12, A12, hy12⟩ := xk_larr K.1 xD_76
          refine xcps2 (α := Int64) (y12.getD (Int32.toNatClampNeg x5) 0) (fun v13 ev13 => ?_)
          refine xi_laload (pc' := 64) (v := v13) kc_154_63 rfl A12 rfl (xi_in (by omega) (by rw [hy12]; omega)) ev13 ?_
          refine xi_ldc2_w (pc' := 67) (v := (-1)) kc_154_64 rfl rfl ?_
          refine xcps2 (α := Int64) ((v13 : Int64) ^^^ (-1)) (fun v14 ev14 => ?_)
          refine xi_lxor (pc' := 68) (v := v14) kc_154_67 rfl ev14 ?_
          refine xcps2 (α := Int64) ((w3 : Int64) &&& v14) (fun v15 ev15 => ?_)
          refine xi_land (pc' := 69) (v := v15) kc_154_68 rfl ev15 ?_
          refine xi_lstore_n (pc' := 70) (lv' := [(3, .long v15), (0, .ref 75), (5, .int x5)]) kc_154_69 rfl rfl (xm_lt ml_154 rfl) ?_
          refine xcps2 (α := Int32) (x5 + 1) (fun v16 ev16 => ?_)
          have zv16 : v16.toInt = (x5.toInt + 1) := by rw [← ev16]; exact (xz_add (X := x5.toInt) (Y := 1) rfl (by decide) (by omega) (by omega)).trans (by omega)
          refine xi_iinc (pc' := 73) (x := x5) (v := v16) (lv' := [(5, .int v16), (3, .long v15), (0, .ref 75)]) kc_154_70 rfl rfl ev16 rfl (xm_lt ml_154 rfl) ?_
          refine xi_goto (pc' := 5) kc_154_73 rfl ?_
          refine xw_lv (b := [(0, .ref 75), (3, .long v15), (5, .int v16)]) (lvS_cons (lvS_cons (lvS_cons (lvS_nil (show ([5, 3, 0] : List Nat).Nodup by decide)) rfl) rfl) rfl) ?_
          exact i0 v15 v16 h (by omega) K (by omega)
        · refine xi_cmt (pc' := 70) kc_154_53 rfl (xc_ne_t (X := v5.toInt) (Y := 2) rfl (by decide) (by omega)) ?_
          refine xcps2 (α := Int32) (x5 + 1) (fun v17 ev17 => ?_)
          have zv17 : v17.toInt = (x5.toInt + 1) := by rw [← ev17]; exact (xz_add (X := x5.toInt) (Y := 1) rfl (by decide) (by omega) (by omega)).trans (by omega)
          refine xi_iinc (pc' := 73) (x := x5) (v := v17) (lv' := [(5, .int v17), (0, .ref 75), (3, .long w3)]) kc_154_70 rfl rfl ev17 rfl (xm_lt ml_154 rfl) ?_
          refine xi_goto (pc' := 5) kc_154_73 rfl ?_
          refine xw_lv (b := [(0, .ref 75), (3, .long w3), (5, .int v17)]) (lvS_cons (lvS_cons (lvS_cons (lvS_nil (show ([5, 0, 3] : List Nat).Nodup by decide)) rfl) rfl) rfl) ?_
          exact i0 w3 v17 h (by omega) K (by omega)
set_option maxHeartbeats 4000000 in
theorem mt_154_0 {J : xe_J} {ov : List (List Int32)} (hJ : ∀ d mj as h, mj ≠ xe_loff → J d mj as h = none) (hov1 : ov[1]? = some [10, 0, 0, 0, 0, 0]) (hov2 : ov[2]? = some [99, 30, 50, 50, 1, 99999]) {d : Nat} {Q : Option Value → xe_H → Prop} {h : xe_H} {w1 : Int64} (T : xt h) (kk : (∀ (r : Int64) (h' : xe_H), xk [(0, 9), (115, 1), (83, 0), (29, 0), (31, 0), (33, 0), (35, 0), (37, 0), (39, 0), (41, 0), (43, 0), (45, 0), (47, 0), (49, 0), (51, 0), (125, 0), (66, 8), (115, 18), (71, 0), (132, 0)] h h' → Q (some (.long r)) h')) : xw J ov (d + 1) 154 (0, [(0, .ref 75), (1, .long w1)], [], h) Q := by
  have K : xk [(0, 9), (115, 1), (83, 0), (29, 0), (31, 0), (33, 0), (35, 0), (37, 0), (39, 0), (41, 0), (43, 0), (45, 0), (47, 0), (49, 0), (51, 0), (125, 0), (66, 8), (115, 18), (71, 0), (132, 0)] h h := xk_re T
  refine xi_lload_n (pc' := 1) (x := w1) kc_154_0 rfl rfl ?_
  refine xi_lstore_n (pc' := 2) (lv' := [(3, .long w1), (0, .ref 75), (1, .long w1)]) kc_154_1 rfl rfl (xm_lt ml_154 rfl) ?_
  refine xi_iconst (pc' := 3) (v := 0) kc_154_2 rfl rfl ?_
  refine xi_istore (pc' := 5) (lv' := [(5, .int 0), (3, .long w1), (0, .ref 75), (1, .long w1)]) kc_154_3 rfl rfl (xm_lt ml_154 rfl) ?_
  have zc0 : (0 : Int32).toInt = 0 := by decide
  refine xw_lv (b := [(0, .ref 75), (3, .long w1), (5, .int 0)]) (lvS_cons (lvS_cons (lvS_cons (lvS_nil (show ([5, 3, 0, 1] : List Nat).Nodup by decide)) rfl) rfl) rfl) ?_
  exact (lp_154_0 hJ hov1 hov2 (d := d) (hb := h) (fun r9 h9 K9 => kk r9 h9 (xk_tr K K9 rfl)) 9) w1 0 h (by omega) (xk_re K.1) (by omega)
set_option maxHeartbeats 4000000 in
theorem mt_152_0 {J : xe_J} {ov : List (List Int32)} (hJ : ∀ d mj as h, mj ≠ xe_loff → J d mj as h = none) (hov1 : ov[1]? = some [10, 0, 0, 0, 0, 0]) (hov2 : ov[2]? = some [99, 30, 50, 50, 1, 99999]) {d : Nat} {Q : Option Value → xe_H → Prop} {h : xe_H} (T : xt h) (kk : (∀ (r : Int64) (h' : xe_H), xk [(0, 9), (115, 1), (83, 0), (29, 0), (31, 0), (33, 0), (35, 0), (37, 0), (39, 0), (41, 0), (43, 0), (45, 0), (47, 0), (49, 0), (51, 0), (125, 0), (66, 8), (115, 18), (71, 0), (132, 0)] h h' → Q (some (.long r)) h')) : xw J ov (d + 7) 152 (0, [(0, .ref 0)], [], h) Q := by
  have K : xk [(0, 9), (115, 1), (83, 0), (29, 0), (31, 0), (33, 0), (35, 0), (37, 0), (39, 0), (41, 0), (43, 0), (45, 0), (47, 0), (49, 0), (51, 0), (125, 0), (66, 8), (115, 18), (71, 0), (132, 0)] h h := xk_re T
  refine xi_aload_n (pc' := 1) (x := 0) kc_152_0 rfl rfl ?_
  refine xp_0 K.1 (fun u1 u2 bu1 bu2 A3 => ?_)
  refine xi_getfield (pc' := 4) (v := .ref 75) kc_152_1 rfl rfl rfl A3 rfl ?_
  refine xi_aload_n (pc' := 5) (x := 0) kc_152_4 rfl rfl ?_
  refine xi_getfield (pc' := 8) (v := .ref 66) kc_152_5 rfl rfl rfl A3 rfl ?_
  refine xp_66 K.1 (fun u5 wl4 bu5 A6 => ?_)
  refine xi_virtual (mj := 153) (as := []) (st1 := [.ref 75]) (lv0 := [(0, .ref 66)]) kc_152_8 rfl rfl rfl rfl rfl A6 (Nat.le_of_ble_eq_true rfl) (hJ _ _ _ _ (by decide)) (xm_le ml_153 rfl) rfl ?_
  refine mt_153_0 hJ hov1 hov2 (d := d)  K.1 (fun r7 hh8 K9 => ?_)
  have K10 := xk_tr K K9 rfl
  refine xp_0 K10.1 (fun u11 u12 bu11 bu12 A13 => ?_)
  have e14 : u2 = u12 := xk_eqi (q := 9) K9 rfl A3 A13 rfl rfl
  subst e14
  refine xp_66 K10.1 (fun u16 wl15 bu16 A17 => ?_)
  have e18 : u5 = u16 := xk_eqi (q := 8) K9 rfl A6 A17 rfl rfl
  subst e18
  show xw J ov (d + 7) 152 (11, [(0, .ref 0)], [.long r7, .ref 75], hh8) _
  refine xp_75 K10.1 (fun u19 bu19 A20 => ?_)
  refine xi_virtual (mj := 154) (as := [.long r7]) (st1 := []) (lv0 := [(0, .ref 75), (1, .long r7)]) kc_152_11 rfl rfl rfl rfl rfl A20 (Nat.le_of_ble_eq_true rfl) (hJ _ _ _ _ (by decide)) (xm_le ml_154 rfl) rfl ?_
  refine mt_154_0 hJ hov1 hov2 (d := d + 5) (w1 := r7) K10.1 (fun r21 hh22 K23 => ?_)
  have K24 := xk_tr K10 K23 rfl
  refine xp_0 K24.1 (fun u25 u26 bu25 bu26 A27 => ?_)
  have e28 : u2 = u26 := xk_eqi (q := 9) K23 rfl A13 A27 rfl rfl
  subst e28
  refine xp_66 K24.1 (fun u30 wl29 bu30 A31 => ?_)
  have e32 : u5 = u30 := xk_eqi (q := 8) K23 rfl A17 A31 rfl rfl
  subst e32
  show xw J ov (d + 7) 152 (14, [(0, .ref 0)], [.long r21], hh22) _
  refine xi_lreturn kc_152_14 mr_152 ?_
  exact kk r21 hh22 K24
set_option maxHeartbeats 4000000 in
theorem mt_5_0 {J : xe_J} {ov : List (List Int32)} (hJ : ∀ d mj as h, mj ≠ xe_loff → J d mj as h = none) (hov1 : ov[1]? = some [10, 0, 0, 0, 0, 0]) (hov2 : ov[2]? = some [99, 30, 50, 50, 1, 99999]) {d : Nat} {Q : Option Value → xe_H → Prop} {h : xe_H} {w0 : Int64} (T : xt h) (kk : (∀ (r : Int32) (h' : xe_H), xk [(0, 9), (115, 1), (83, 0), (29, 0), (31, 0), (33, 0), (35, 0), (37, 0), (39, 0), (41, 0), (43, 0), (45, 0), (47, 0), (49, 0), (51, 0), (125, 0), (66, 8), (115, 18), (71, 0), (132, 0)] h h' → Q (some (.int r)) h')) : xw J ov (d + 1) 5 (0, [(0, .long w0)], [], h) Q := by
  have K : xk [(0, 9), (115, 1), (83, 0), (29, 0), (31, 0), (33, 0), (35, 0), (37, 0), (39, 0), (41, 0), (43, 0), (45, 0), (47, 0), (49, 0), (51, 0), (125, 0), (66, 8), (115, 18), (71, 0), (132, 0)] h h := xk_re T
  refine xi_lload_n (pc' := 1) (x := w0) kc_5_0 rfl rfl ?_
  refine xi_lload_n (pc' := 2) (x := w0) kc_5_1 rfl rfl ?_
  refine xi_iconst (pc' := 3) (v := 1) kc_5_2 rfl rfl ?_
  refine xcps2 (α := Int64) (((w0 : Int64).toUInt64 >>> ((1 : Int32).toInt64.toUInt64 &&& Int64.toUInt64 63)).toInt64) (fun v1 ev1 => ?_)
  refine xi_lushr (pc' := 4) (v := v1) kc_5_3 rfl ev1 ?_
  refine xi_ldc2_w (pc' := 7) (v := 6148914691236517205) kc_5_4 rfl rfl ?_
  refine xcps2 (α := Int64) ((v1 : Int64) &&& 6148914691236517205) (fun v2 ev2 => ?_)
  refine xi_land (pc' := 8) (v := v2) kc_5_7 rfl ev2 ?_
  refine xcps2 (α := Int64) ((w0 : Int64) - v2) (fun v3 ev3 => ?_)
  refine xi_lsub (pc' := 9) (v := v3) kc_5_8 rfl ev3 ?_
  refine xi_lstore_n (pc' := 10) (lv' := [(0, .long v3)]) kc_5_9 rfl rfl (xm_lt ml_5 rfl) ?_
  refine xi_lload_n (pc' := 11) (x := v3) kc_5_10 rfl rfl ?_
  refine xi_ldc2_w (pc' := 14) (v := 3689348814741910323) kc_5_11 rfl rfl ?_
  refine xcps2 (α := Int64) ((v3 : Int64) &&& 3689348814741910323) (fun v4 ev4 => ?_)
  refine xi_land (pc' := 15) (v := v4) kc_5_14 rfl ev4 ?_
  refine xi_lload_n (pc' := 16) (x := v3) kc_5_15 rfl rfl ?_
  refine xi_iconst (pc' := 17) (v := 2) kc_5_16 rfl rfl ?_
  refine xcps2 (α := Int64) (((v3 : Int64).toUInt64 >>> ((2 : Int32).toInt64.toUInt64 &&& Int64.toUInt64 63)).toInt64) (fun v5 ev5 => ?_)
  refine xi_lushr (pc' := 18) (v := v5) kc_5_17 rfl ev5 ?_
  refine xi_ldc2_w (pc' := 21) (v := 3689348814741910323) kc_5_18 rfl rfl ?_
  refine xcps2 (α := Int64) ((v5 : Int64) &&& 3689348814741910323) (fun v6 ev6 => ?_)
  refine xi_land (pc' := 22) (v := v6) kc_5_21 rfl ev6 ?_
  refine xcps2 (α := Int64) ((v4 : Int64) + v6) (fun v7 ev7 => ?_)
  refine xi_ladd (pc' := 23) (v := v7) kc_5_22 rfl ev7 ?_
  refine xi_lstore_n (pc' := 24) (lv' := [(0, .long v7)]) kc_5_23 rfl rfl (xm_lt ml_5 rfl) ?_
  refine xi_lload_n (pc' := 25) (x := v7) kc_5_24 rfl rfl ?_
  refine xi_lload_n (pc' := 26) (x := v7) kc_5_25 rfl rfl ?_
  refine xi_iconst (pc' := 27) (v := 4) kc_5_26 rfl rfl ?_
  refine xcps2 (α := Int64) (((v7 : Int64).toUInt64 >>> ((4 : Int32).toInt64.toUInt64 &&& Int64.toUInt64 63)).toInt64) (fun v8 ev8 => ?_)
  refine xi_lushr (pc' := 28) (v := v8) kc_5_27 rfl ev8 ?_
  refine xcps2 (α := Int64) ((v7 : Int64) + v8) (fun v9 ev9 => ?_)
  refine xi_ladd (pc' := 29) (v := v9) kc_5_28 rfl ev9 ?_
  refine xi_ldc2_w (pc' := 32) (v := 1085102592571150095) kc_5_29 rfl rfl ?_
  refine xcps2 (α := Int64) ((v9 : Int64) &&& 1085102592571150095) (fun v10 ev10 => ?_)
  refine xi_land (pc' := 33) (v := v10) kc_5_32 rfl ev10 ?_
  refine xi_lstore_n (pc' := 34) (lv' := [(0, .long v10)]) kc_5_33 rfl rfl (xm_lt ml_5 rfl) ?_
  refine xi_lload_n (pc' := 35) (x := v10) kc_5_34 rfl rfl ?_
  refine xi_lload_n (pc' := 36) (x := v10) kc_5_35 rfl rfl ?_
  refine xi_bipush (pc' := 38) (v := 8) kc_5_36 rfl rfl ?_
  refine xcps2 (α := Int64) (((v10 : Int64).toUInt64 >>> ((8 : Int32).toInt64.toUInt64 &&& Int64.toUInt64 63)).toInt64) (fun v11 ev11 => ?_)
  refine xi_lushr (pc' := 39) (v := v11) kc_5_38 rfl ev11 ?_
  refine xcps2 (α := Int64) ((v10 : Int64) + v11) (fun v12 ev12 => ?_)
  refine xi_ladd (pc' := 40) (v := v12) kc_5_39 rfl ev12 ?_
  refine xi_lstore_n (pc' := 41) (lv' := [(0, .long v12)]) kc_5_40 rfl rfl (xm_lt ml_5 rfl) ?_
  refine xi_lload_n (pc' := 42) (x := v12) kc_5_41 rfl rfl ?_
  refine xi_lload_n (pc' := 43) (x := v12) kc_5_42 rfl rfl ?_
  refine xi_bipush (pc' := 45) (v := 16) kc_5_43 rfl rfl ?_
  refine xcps2 (α := Int64) (((v12 : Int64).toUInt64 >>> ((16 : Int32).toInt64.toUInt64 &&& Int64.toUInt64 63)).toInt64) (fun v13 ev13 => ?_)
  refine xi_lushr (pc' := 46) (v := v13) kc_5_45 rfl ev13 ?_
  refine xcps2 (α := Int64) ((v12 : Int64) + v13) (fun v14 ev14 => ?_)
  refine xi_ladd (pc' := 47) (v := v14) kc_5_46 rfl ev14 ?_
  refine xi_lstore_n (pc' := 48) (lv' := [(0, .long v14)]) kc_5_47 rfl rfl (xm_lt ml_5 rfl) ?_
  refine xi_lload_n (pc' := 49) (x := v14) kc_5_48 rfl rfl ?_
  refine xi_lload_n (pc' := 50) (x := v14) kc_5_49 rfl rfl ?_
  refine xi_bipush (pc' := 52) (v := 32) kc_5_50 rfl rfl ?_
  refine xcps2 (α := Int64) (((v14 : Int64).toUInt64 >>> ((32 : Int32).toInt64.toUInt64 &&& Int64.toUInt64 63)).toInt64) (fun v15 ev15 => ?_)
  refine xi_lushr (pc' := 53) (v := v15) kc_5_52 rfl ev15 ?_
  refine xcps2 (α := Int64) ((v14 : Int64) + v15) (fun v16 ev16 => ?_)
  refine xi_ladd (pc' := 54) (v := v16) kc_5_53 rfl ev16 ?_
  refine xi_lstore_n (pc' := 55) (lv' := [(0, .long v16)]) kc_5_54 rfl rfl (xm_lt ml_5 rfl) ?_
  refine xi_lload_n (pc' := 56) (x := v16) kc_5_55 rfl rfl ?_
  obtain ⟨v17, ev17⟩ : ∃ q, (v16 : Int64).toInt32 = q := ⟨_, rfl⟩
  have rv17 := xc_rng v17
  refine xi_l2i (pc' := 57) (v := v17) kc_5_56 rfl ev17 ?_
  refine xi_bipush (pc' := 59) (v := 127) kc_5_57 rfl rfl ?_
  refine xcps2 (α := Int32) ((v17 : Int32) &&& 127) (fun v18 ev18 => ?_)
  have rv18 := xc_rng v18
  refine xi_iand (pc' := 60) (v := v18) kc_5_59 rfl ev18 ?_
  refine xi_ireturn kc_5_60 mr_5 rfl ?_
  exact kk v18 h K
set_option maxHeartbeats 4000000 in
theorem mt_151_0 {J : xe_J} {ov : List (List Int32)} (hJ : ∀ d mj as h, mj ≠ xe_loff → J d mj as h = none) (hov1 : ov[1]? = some [10, 0, 0, 0, 0, 0]) (hov2 : ov[2]? = some [99, 30, 50, 50, 1, 99999]) {d : Nat} {Q : Option Value → xe_H → Prop} {h : xe_H} (T : xt h) (kk : (∀ (r : Int32) (h' : xe_H), xk [(0, 9), (115, 1), (83, 0), (29, 0), (31, 0), (33, 0), (35, 0), (37, 0), (39, 0), (41, 0), (43, 0), (45, 0), (47, 0), (49, 0), (51, 0), (125, 0), (66, 8), (115, 18), (71, 0), (132, 0)] h h' → Q (some (.int r)) h')) : xw J ov (d + 8) 151 (0, [(0, .ref 0)], [], h) Q := by
  have K : xk [(0, 9), (115, 1), (83, 0), (29, 0), (31, 0), (33, 0), (35, 0), (37, 0), (39, 0), (41, 0), (43, 0), (45, 0), (47, 0), (49, 0), (51, 0), (125, 0), (66, 8), (115, 18), (71, 0), (132, 0)] h h := xk_re T
  refine xi_aload_n (pc' := 1) (x := 0) kc_151_0 rfl rfl ?_
  refine xp_0 K.1 (fun u1 u2 bu1 bu2 A3 => ?_)
  refine xi_virtual (mj := 152) (as := []) (st1 := []) (lv0 := [(0, .ref 0)]) kc_151_1 rfl rfl rfl rfl rfl A3 (Nat.le_of_ble_eq_true rfl) (hJ _ _ _ _ (by decide)) (xm_le ml_152 rfl) rfl ?_
  refine mt_152_0 hJ hov1 hov2 (d := d)  K.1 (fun r4 hh5 K6 => ?_)
  have K7 := xk_tr K K6 rfl
  refine xp_0 K7.1 (fun u8 u9 bu8 bu9 A10 => ?_)
  have e11 : u2 = u9 := xk_eqi (q := 9) K6 rfl A3 A10 rfl rfl
  subst e11
  show xw J ov (d + 8) 151 (4, [(0, .ref 0)], [.long r4], hh5) _
  refine xi_static (mj := 5) (as := [.long r4]) (st1 := []) (lv0 := [(0, .long r4)]) kc_151_4 rfl rfl (Nat.le_of_ble_eq_true rfl) rfl rfl (Nat.le_of_ble_eq_true rfl) (hJ _ _ _ _ (by decide)) (xm_le ml_5 rfl) rfl ?_
  refine mt_5_0 hJ hov1 hov2 (d := d + 6) (w0 := r4) K7.1 (fun r12 hh13 K14 => ?_)
  have br12 := xc_rng r12
  have K15 := xk_tr K7 K14 rfl
  refine xp_0 K15.1 (fun u16 u17 bu16 bu17 A18 => ?_)
  have e19 : u2 = u17 := xk_eqi (q := 9) K14 rfl A10 A18 rfl rfl
  subst e19
  show xw J ov (d + 8) 151 (7, [(0, .ref 0)], [.int r12], hh13) _
  refine xi_ireturn kc_151_7 mr_151 rfl ?_
  exact kk r12 hh13 K15
set_option maxHeartbeats 4000000 in
theorem lp_156_0 {J : xe_J} {ov : List (List Int32)} (hJ : ∀ d mj as h, mj ≠ xe_loff → J d mj as h = none) (hov1 : ov[1]? = some [10, 0, 0, 0, 0, 0]) (hov2 : ov[2]? = some [99, 30, 50, 50, 1, 99999]) {d : Nat} {Q : Option Value → xe_H → Prop} {hb : xe_H} (kk : (∀ (r : Int32) (h' : xe_H), ((-9) ≤ r.toInt ∧ r.toInt ≤ 7) → xk [(0, 9), (115, 1), (83, 0), (29, 0), (31, 0), (33, 0), (35, 0), (37, 0), (39, 0), (41, 0), (43, 0), (45, 0), (47, 0), (49, 0), (51, 0), (125, 0), (66, 8), (115, 18), (71, 0), (132, 0)] hb h' → Q (some (.int r)) h')) : ∀ m : Nat, (∀ (x1 : Int32) (x2 : Int32) (w3 : Int64) (x5 : Int32) (h : xe_H), (0 ≤ x1.toInt ∧ x1.toInt ≤ 63) → (1 ≤ x2.toInt ∧ x2.toInt ≤ 999) → (0 ≤ x5.toInt ∧ x5.toInt ≤ 64) → (∀ v : Int32, xl h (75, 4) = some (.inl (.int v)) → v.toInt + (-7) ≤ 0) → xk [(0, 9), (115, 1), (83, 0), (29, 0), (31, 0), (33, 0), (35, 0), (37, 0), (39, 0), (41, 0), (43, 0), (45, 0), (47, 0), (49, 0), (51, 0), (125, 0), (66, 8), (115, 18), (71, 0), (132, 0)] hb h → (-1) * x5.toInt + 64 < (m : Int) → xw J ov (d + 1) 156 (17, [(0, .ref 75), (1, .int x1), (2, .int x2), (3, .long w3), (5, .int x5)], [], h) Q) := by
  intro m
  induction m with
  | zero =>
    intro x1 x2 w3 x5 h b1 b2 b5 gh0 K hm; exfalso; omega
  | succ m ih =>
    have i0 := ih
    intro x1 x2 w3 x5 h b1 b2 b5 gh0 K hm
    refine xp_75 K.1 (fun u1 bu1 A2 => ?_)
    have gh0' := gh0 _ (xl_of A2 rfl)
    refine xi_iload (pc' := 19) (x := x5) kc_156_17 rfl rfl ?_
    refine xi_bipush (pc' := 21) (v := 64) kc_156_19 rfl rfl ?_
    by_cases c3 : 64 ≤ x5.toInt
    · refine xi_cmt (pc' := 44) kc_156_21 rfl (xc_ge_t (X := x5.toInt) (Y := 64) rfl (by decide) (by omega)) ?_
      refine xi_aload_n (pc' := 45) (x := 75) kc_156_44 rfl rfl ?_
      refine xi_getfield (pc' := 48) (v := .ref 76) kc_156_45 rfl rfl rfl A2 rfl ?_
      refine xi_aload_n (pc' := 49) (x := 75) kc_156_48 rfl rfl ?_
      refine xi_getfield (pc' := 52) (v := .int u1) kc_156_49 rfl rfl rfl A2 rfl ?_
      refine xi_lload_n (pc' := 53) (x := w3) kc_156_52 rfl rfl ?_
      obtain ⟨y4, A4, hy4⟩ := xk_larr K.1 xD_76
      obtain ⟨y5, s5, hy5⟩ := xj_lset (v := w3) hy4 u1
      refine xi_lastore (pc' := 54) (x' := y5) kc_156_53 rfl A4 rfl (xi_in (by omega) (by rw [hy4]; omega)) s5 (fun hh5 eh5 => ?_)
      have K6 := xk_pla K (xk_wa rfl) xD_76 hy5 eh5
      refine xi_aload_n (pc' := 55) (x := 75) kc_156_54 rfl rfl ?_
      have A7 := ((eh5.2.1 75 (by decide)).trans A2)
      refine xi_getfield (pc' := 58) (v := .ref 77) kc_156_55 rfl rfl rfl A7 rfl ?_
      refine xi_aload_n (pc' := 59) (x := 75) kc_156_58 rfl rfl ?_
      refine xi_getfield (pc' := 62) (v := .int u1) kc_156_59 rfl rfl rfl A7 rfl ?_
      refine xi_iload_n (pc' := 63) (x := x2) kc_156_62 rfl rfl ?_
      refine xcps4 (xk_arr K6.1 xD_77) (fun y8 A8 hy8 ry8 => ?_)
      refine xcps4 (xj_set (v := x2) hy8 ry8 u1 (by first | omega | decide) (by first | omega | decide)) (fun y9 s9 hy9 ry9 => ?_)
      refine xi_iastore (pc' := 64) (x' := y9) kc_156_63 rfl A8 rfl (xi_in (by omega) (by rw [hy8]; omega)) s9 (fun hh9 eh9 => ?_)
      have K10 := xk_pa K6 (xk_wa rfl) xD_77 hy9 ry9 eh9
      refine xi_aload_n (pc' := 65) (x := 75) kc_156_64 rfl rfl ?_
      refine xi_dup (pc' := 66) kc_156_65 rfl rfl ?_
      have A11 := ((eh9.2.1 75 (by decide)).trans A7)
      refine xi_getfield (pc' := 69) (v := .int u1) kc_156_66 rfl rfl rfl A11 rfl ?_
      refine xi_iconst (pc' := 70) (v := 1) kc_156_69 rfl rfl ?_
      refine xcps2 (α := Int32) (u1 + 1) (fun v12 ev12 => ?_)
      have zv12 : v12.toInt = (u1.toInt + 1) := by rw [← ev12]; exact (xz_add (X := u1.toInt) (Y := 1) rfl (by decide) (by omega) (by omega)).trans (by omega)
      refine xi_iadd (pc' := 71) (v := v12) kc_156_70 rfl ev12 ?_
      refine xi_putfield (pc' := 74) (fs' := [.ref 76, .ref 77, .ref 78, .ref 79, .int v12]) kc_156_71 rfl rfl rfl A11 rfl rfl rfl (Nat.le_of_ble_eq_true rfl) rfl (fun hh14 eh13 => ?_)
      have K15 := xk_pf (k := 4) (v := v12) K10 (xk_wf rfl) xD_75 A11 rfl (by first | omega | decide) (by first | omega | decide) eh13 rfl
      refine xi_aload_n (pc' := 75) (x := 75) kc_156_74 rfl rfl ?_
      refine xi_getfield (pc' := 78) (v := .int v12) kc_156_75 rfl rfl rfl eh13.1 rfl ?_
      refine xi_iconst (pc' := 79) (v := 1) kc_156_78 rfl rfl ?_
      refine xcps2 (α := Int32) (v12 - 1) (fun v16 ev16 => ?_)
      have zv16 : v16.toInt = u1.toInt := by rw [← ev16]; exact (xz_sub (X := (u1.toInt + 1)) (Y := 1) zv12 (by decide) (by omega) (by omega)).trans (by omega)
      refine xi_isub (pc' := 80) (v := v16) kc_156_79 rfl ev16 ?_
      refine xi_ireturn kc_156_80 mr_156 rfl ?_
      exact kk v16 hh14 (by omega) K15
    · refine xi_cmf (pc' := 24) kc_156_21 rfl (xc_ge_f (X := x5.toInt) (Y := 64) rfl (by decide) (by omega)) ?_
      refine xi_iload (pc' := 26) (x := x5) kc_156_24 rfl rfl ?_
      refine xi_iload_n (pc' := 27) (x := x1) kc_156_26 rfl rfl ?_
      refine xcps2 (α := Int32) ((x5 : Int32) &&& x1) (fun v17 ev17 => ?_)
      have rv17 := xc_rng v17
      refine xi_iand (pc' := 28) (v := v17) kc_156_27 rfl ev17 ?_
      by_cases c18 : v17.toInt = 0
      · refine xi_ift (pc' := 38) kc_156_28 rfl (xc_eq_t (X := v17.toInt) (Y := 0) rfl (by decide) (by omega)) ?_
        refine xcps2 (α := Int32) (x5 + 1) (fun v19 ev19 => ?_)
        have zv19 : v19.toInt = (x5.toInt + 1) := by rw [← ev19]; exact (xz_add (X := x5.toInt) (Y := 1) rfl (by decide) (by omega) (by omega)).trans (by omega)
        refine xi_iinc (pc' := 41) (x := x5) (v := v19) (lv' := [(5, .int v19), (0, .ref 75), (1, .int x1), (2, .int x2), (3, .long w3)]) kc_156_38 rfl rfl ev19 rfl (xm_lt ml_156 rfl) ?_
        refine xi_goto (pc' := 17) kc_156_41 rfl ?_
        refine xw_lv (b := [(0, .ref 75), (1, .int x1), (2, .int x2), (3, .long w3), (5, .int v19)]) (lvS_cons (lvS_cons (lvS_cons (lvS_cons (lvS_cons (lvS_nil (show ([5, 0, 1, 2, 3] : List Nat).Nodup by decide)) rfl) rfl) rfl) rfl) rfl) ?_
        exact i0 x1 x2 w3 v19 h (by omega) (by omega) (by omega) (fun v e => by have e2 := xl_val (u := u1) A2 rfl e; subst e2; omega) K (by omega)
      · refine xi_iff (pc' := 31) kc_156_28 rfl (xc_eq_f (X := v17.toInt) (Y := 0) rfl (by decide) (by omega)) ?_
        refine xi_lload_n (pc' := 32) (x := w3) kc_156_31 rfl rfl ?_
        refine xi_lconst (pc' := 33) (v := 1) kc_156_32 rfl rfl ?_
        refine xi_iload (pc' := 35) (x := x5) kc_156_33 rfl rfl ?_
        refine xcps2 (α := Int64) ((1 : Int64) <<< ((x5 : Int32).toInt64 &&& 63)) (fun v20 ev20 => ?_)
        refine xi_lshl (pc' := 36) (v := v20) kc_156_35 rfl ev20 ?_
        refine xcps2 (α := Int64) ((w3 : Int64) ||| v20) (fun v21 ev21 => ?_)
        refine xi_lor (pc' := 37) (v := v21) kc_156_36 rfl ev21 ?_
        refine xi_lstore_n (pc' := 38) (lv' := [(3, .long v21), (0, .ref 75), (1, .int x1), (2, .int x2), (5, .int x5)]) kc_156_37 rfl rfl (xm_lt ml_156 rfl) ?_
        refine xcps2 (α := Int32) (x5 + 1) (fun v22 ev22 => ?_)
        have zv22 : v22.toInt = (x5.toInt + 1) := by rw [← ev22]; exact (xz_add (X := x5.toInt) (Y := 1) rfl (by decide) (by omega) (by omega)).trans (by omega)
        refine xi_iinc (pc' := 41) (x := x5) (v := v22) (lv' := [(5, .int v22), (3, .long v21), (0, .ref 75), (1, .int x1), (2, .int x2)]) kc_156_38 rfl rfl ev22 rfl (xm_lt ml_156 rfl) ?_
        refine xi_goto (pc' := 17) kc_156_41 rfl ?_
        refine xw_lv (b := [(0, .ref 75), (1, .int x1), (2, .int x2), (3, .long v21), (5, .int v22)]) (lvS_cons (lvS_cons (lvS_cons (lvS_cons (lvS_cons (lvS_nil (show ([5, 3, 0, 1, 2] : List Nat).Nodup by decide)) rfl) rfl) rfl) rfl) rfl) ?_
        exact i0 x1 x2 v21 v22 h (by omega) (by omega) (by omega) (fun v e => by have e2 := xl_val (u := u1) A2 rfl e; subst e2; omega) K (by omega)
set_option maxHeartbeats 4000000 in
theorem mt_156_0 {J : xe_J} {ov : List (List Int32)} (hJ : ∀ d mj as h, mj ≠ xe_loff → J d mj as h = none) (hov1 : ov[1]? = some [10, 0, 0, 0, 0, 0]) (hov2 : ov[2]? = some [99, 30, 50, 50, 1, 99999]) {d : Nat} {Q : Option Value → xe_H → Prop} {h : xe_H} {x1 : Int32} {x2 : Int32} (T : xt h) (b1 : (0 ≤ x1.toInt ∧ x1.toInt ≤ 63)) (b2 : (1 ≤ x2.toInt ∧ x2.toInt ≤ 999)) (kk : (∀ (r : Int32) (h' : xe_H), ((-9) ≤ r.toInt ∧ r.toInt ≤ 7) → xk [(0, 9), (115, 1), (83, 0), (29, 0), (31, 0), (33, 0), (35, 0), (37, 0), (39, 0), (41, 0), (43, 0), (45, 0), (47, 0), (49, 0), (51, 0), (125, 0), (66, 8), (115, 18), (71, 0), (132, 0)] h h' → Q (some (.int r)) h')) : xw J ov (d + 1) 156 (0, [(0, .ref 75), (1, .int x1), (2, .int x2)], [], h) Q := by
  have K : xk [(0, 9), (115, 1), (83, 0), (29, 0), (31, 0), (33, 0), (35, 0), (37, 0), (39, 0), (41, 0), (43, 0), (45, 0), (47, 0), (49, 0), (51, 0), (125, 0), (66, 8), (115, 18), (71, 0), (132, 0)] h h := xk_re T
  refine xi_aload_n (pc' := 1) (x := 75) kc_156_0 rfl rfl ?_
  refine xp_75 K.1 (fun u1 bu1 A2 => ?_)
  refine xi_getfield (pc' := 4) (v := .int u1) kc_156_1 rfl rfl rfl A2 rfl ?_
  refine xi_bipush (pc' := 6) (v := 8) kc_156_4 rfl rfl ?_
  by_cases c3 : u1.toInt < 8
  · refine xi_cmt (pc' := 12) kc_156_6 rfl (xc_lt_t (X := u1.toInt) (Y := 8) rfl (by decide) (by omega)) ?_
    refine xi_lconst (pc' := 13) (v := 0) kc_156_12 rfl rfl ?_
    refine xi_lstore_n (pc' := 14) (lv' := [(3, .long 0), (0, .ref 75), (1, .int x1), (2, .int x2)]) kc_156_13 rfl rfl (xm_lt ml_156 rfl) ?_
    refine xi_iconst (pc' := 15) (v := 0) kc_156_14 rfl rfl ?_
    refine xi_istore (pc' := 17) (lv' := [(5, .int 0), (3, .long 0), (0, .ref 75), (1, .int x1), (2, .int x2)]) kc_156_15 rfl rfl (xm_lt ml_156 rfl) ?_
    have zc0 : (0 : Int32).toInt = 0 := by decide
    refine xw_lv (b := [(0, .ref 75), (1, .int x1), (2, .int x2), (3, .long 0), (5, .int 0)]) (lvS_cons (lvS_cons (lvS_cons (lvS_cons (lvS_cons (lvS_nil (show ([5, 3, 0, 1, 2] : List Nat).Nodup by decide)) rfl) rfl) rfl) rfl) rfl) ?_
    exact (lp_156_0 hJ hov1 hov2 (d := d) (hb := h) (fun r9 h9 b9 K9 => kk r9 h9 b9 (xk_tr K K9 rfl)) 65) x1 x2 0 0 h (by omega) (by omega) (by omega) (fun v e => by have e2 := xl_val (u := u1) A2 rfl e; subst e2; omega) (xk_re K.1) (by omega)
  · refine xi_cmf (pc' := 9) kc_156_6 rfl (xc_lt_f (X := u1.toInt) (Y := 8) rfl (by decide) (by omega)) ?_
    refine xi_bipush (pc' := 11) (v := (-9)) kc_156_9 rfl rfl ?_
    refine xi_ireturn kc_156_11 mr_156 rfl ?_
    have zcm9 : ((-9) : Int32).toInt = (-9) := by decide
    exact kk (-9) h (by omega) K
set_option maxHeartbeats 4000000 in
theorem mt_155_0 {J : xe_J} {ov : List (List Int32)} (hJ : ∀ d mj as h, mj ≠ xe_loff → J d mj as h = none) (hov1 : ov[1]? = some [10, 0, 0, 0, 0, 0]) (hov2 : ov[2]? = some [99, 30, 50, 50, 1, 99999]) {d : Nat} {Q : Option Value → xe_H → Prop} {h : xe_H} {x1 : Int32} {x2 : Int32} (T : xt h) (kk : (∀ (r : Int32) (h' : xe_H), ((-9) ≤ r.toInt ∧ r.toInt ≤ 7) → xk [(0, 9), (115, 1), (83, 0), (29, 0), (31, 0), (33, 0), (35, 0), (37, 0), (39, 0), (41, 0), (43, 0), (45, 0), (47, 0), (49, 0), (51, 0), (125, 0), (66, 8), (115, 18), (71, 0), (132, 0)] h h' → Q (some (.int r)) h')) : xw J ov (d + 2) 155 (0, [(0, .ref 0), (1, .int x1), (2, .int x2)], [], h) Q := by
  have K : xk [(0, 9), (115, 1), (83, 0), (29, 0), (31, 0), (33, 0), (35, 0), (37, 0), (39, 0), (41, 0), (43, 0), (45, 0), (47, 0), (49, 0), (51, 0), (125, 0), (66, 8), (115, 18), (71, 0), (132, 0)] h h := xk_re T
  have rx1 := xc_rng x1
  have rx2 := xc_rng x2
  refine xi_iload_n (pc' := 1) (x := x1) kc_155_0 rfl rfl ?_
  by_cases c1 : x1.toInt < 0
  · refine xi_ift (pc' := 10) kc_155_1 rfl (xc_lt_t (X := x1.toInt) (Y := 0) rfl (by decide) (by omega)) ?_
    refine xi_aload_n (pc' := 11) (x := 0) kc_155_10 rfl rfl ?_
    refine xi_bipush (pc' := 13) (v := (-2)) kc_155_11 rfl rfl ?_
    refine xp_0 K.1 (fun u2 u3 bu2 bu3 A4 => ?_)
    refine xi_virtual (mj := 90) (as := [.int (-2)]) (st1 := []) (lv0 := [(0, .ref 0), (1, .int (-2))]) kc_155_13 rfl rfl rfl rfl rfl A4 (Nat.le_of_ble_eq_true rfl) (hJ _ _ _ _ (by decide)) (xm_le ml_90 rfl) rfl ?_
    refine xi_iload_n (pc' := 1) (x := (-2)) kc_90_0 rfl rfl ?_
    refine xi_ineg (pc' := 2) (v := 2) kc_90_1 rfl rfl ?_
    refine xi_istore_n (pc' := 3) (lv' := [(2, .int 2), (0, .ref 0), (1, .int (-2))]) kc_90_2 rfl rfl (xm_lt ml_90 rfl) ?_
    refine xi_iload_n (pc' := 4) (x := 2) kc_90_3 rfl rfl ?_
    refine xi_iff (pc' := 7) kc_90_4 rfl rfl ?_
    refine xi_iload_n (pc' := 8) (x := 2) kc_90_7 rfl rfl ?_
    refine xi_aload_n (pc' := 9) (x := 0) kc_90_8 rfl rfl ?_
    refine xi_getfield (pc' := 12) (v := .ref 94) kc_90_9 rfl rfl rfl A4 rfl ?_
    refine xcps4 (xk_arr K.1 xD_94) (fun y5 A5 hy5 ry5 => ?_)
    refine xi_arraylength (pc' := 13) (n := 7) (v := 7) kc_90_12 rfl (xl_lenI (by decide) (by decide) A5 hy5) rfl ?_
    refine xi_cmf (pc' := 16) kc_90_13 rfl rfl ?_
    refine xi_aload_n (pc' := 17) (x := 0) kc_90_16 rfl rfl ?_
    refine xi_getfield (pc' := 20) (v := .ref 94) kc_90_17 rfl rfl rfl A4 rfl ?_
    refine xi_iload_n (pc' := 21) (x := 2) kc_90_20 rfl rfl ?_
    refine xi_dup2 (pc' := 22) kc_90_21 rfl ⟨rfl, rfl⟩ ?_
    refine xcps4 (xj_get hy5 ry5 (i := 2) (by decide) (by decide)) (fun v6 ev6 bv6 dv6 => ?_)
    refine xi_iaload (pc' := 23) (v := v6) kc_90_22 rfl A5 (by decide) rfl (xi_in (by decide) (by rw [hy5]; decide)) ev6 ?_
    refine xi_iconst (pc' := 24) (v := 1) kc_90_23 rfl rfl ?_
    refine xcps2 (α := Int32) ((v6 : Int32) + 1) (fun v7 ev7 => ?_)
    have rv7 := xc_rng v7
    refine xi_iadd (pc' := 25) (v := v7) kc_90_24 rfl ev7 ?_
    refine xcps4 (xj_set (v := v7) hy5 ry5 2 (by first | omega | decide) (by first | omega | decide)) (fun y8 s8 hy8 ry8 => ?_)
    refine xi_iastore (pc' := 26) (x' := y8) kc_90_25 rfl A5 rfl (xi_in (by decide) (by rw [hy5]; decide)) s8 (fun hh8 eh8 => ?_)
    have K9 := xk_pa K (xk_wa rfl) xD_94 hy8 ry8 eh8
    refine xi_iload_n (pc' := 27) (x := (-2)) kc_90_26 rfl rfl ?_
    refine xi_ireturn kc_90_27 mr_90 rfl ?_
    show xw J ov (d + 2) 155 (16, [(0, .ref 0), (1, .int x1), (2, .int x2)], [.int (-2)], hh8) _
    refine xi_ireturn kc_155_16 mr_155 rfl ?_
    have zcm2 : ((-2) : Int32).toInt = (-2) := by decide
    exact kk (-2) hh8 (by omega) K9
  · refine xi_iff (pc' := 4) kc_155_1 rfl (xc_lt_f (X := x1.toInt) (Y := 0) rfl (by decide) (by omega)) ?_
    refine xi_iload_n (pc' := 5) (x := x1) kc_155_4 rfl rfl ?_
    refine xi_bipush (pc' := 7) (v := 64) kc_155_5 rfl rfl ?_
    by_cases c10 : x1.toInt < 64
    · refine xi_cmt (pc' := 17) kc_155_7 rfl (xc_lt_t (X := x1.toInt) (Y := 64) rfl (by decide) (by omega)) ?_
      refine xi_iload_n (pc' := 18) (x := x2) kc_155_17 rfl rfl ?_
      refine xi_iconst (pc' := 19) (v := 1) kc_155_18 rfl rfl ?_
      by_cases c11 : 1 ≤ x2.toInt
      · refine xi_cmt (pc' := 29) kc_155_19 rfl (xc_ge_t (X := x2.toInt) (Y := 1) rfl (by decide) (by omega)) ?_
        refine xi_iload_n (pc' := 30) (x := x2) kc_155_29 rfl rfl ?_
        refine xi_sipush (pc' := 33) (v := 999) kc_155_30 rfl rfl ?_
        by_cases c12 : 999 < x2.toInt
        · refine xi_cmt (pc' := 48) kc_155_33 rfl (xc_gt_t (X := x2.toInt) (Y := 999) rfl (by decide) (by omega)) ?_
          refine xi_aload_n (pc' := 49) (x := 0) kc_155_48 rfl rfl ?_
          refine xi_bipush (pc' := 51) (v := (-6)) kc_155_49 rfl rfl ?_
          refine xp_0 K.1 (fun u13 u14 bu13 bu14 A15 => ?_)
          refine xi_virtual (mj := 90) (as := [.int (-6)]) (st1 := []) (lv0 := [(0, .ref 0), (1, .int (-6))]) kc_155_51 rfl rfl rfl rfl rfl A15 (Nat.le_of_ble_eq_true rfl) (hJ _ _ _ _ (by decide)) (xm_le ml_90 rfl) rfl ?_
          refine xi_iload_n (pc' := 1) (x := (-6)) kc_90_0 rfl rfl ?_
          refine xi_ineg (pc' := 2) (v := 6) kc_90_1 rfl rfl ?_
          refine xi_istore_n (pc' := 3) (lv' := [(2, .int 6), (0, .ref 0), (1, .int (-6))]) kc_90_2 rfl rfl (xm_lt ml_90 rfl) ?_
          refine xi_iload_n (pc' := 4) (x := 6) kc_90_3 rfl rfl ?_
          refine xi_iff (pc' := 7) kc_90_4 rfl rfl ?_
          refine xi_iload_n (pc' := 8) (x := 6) kc_90_7 rfl rfl ?_
          refine xi_aload_n (pc' := 9) (x := 0) kc_90_8 rfl rfl ?_
          refine xi_getfield (pc' := 12) (v := .ref 94) kc_90_9 rfl rfl rfl A15 rfl ?_
          refine xcps4 (xk_arr K.1 xD_94) (fun y16 A16 hy16 ry16 => ?_)
          refine xi_arraylength (pc' := 13) (n := 7) (v := 7) kc_90_12 rfl (xl_lenI (by decide) (by decide) A16 hy16) rfl ?_
          refine xi_cmf (pc' := 16) kc_90_13 rfl rfl ?_
          refine xi_aload_n (pc' := 17) (x := 0) kc_90_16 rfl rfl ?_
          refine xi_getfield (pc' := 20) (v := .ref 94) kc_90_17 rfl rfl rfl A15 rfl ?_
          refine xi_iload_n (pc' := 21) (x := 6) kc_90_20 rfl rfl ?_
          refine xi_dup2 (pc' := 22) kc_90_21 rfl ⟨rfl, rfl⟩ ?_
          refine xcps4 (xj_get hy16 ry16 (i := 6) (by decide) (by decide)) (fun v17 ev17 bv17 dv17 => ?_)
          refine xi_iaload (pc' := 23) (v := v17) kc_90_22 rfl A16 (by decide) rfl (xi_in (by decide) (by rw [hy16]; decide)) ev17 ?_
          refine xi_iconst (pc' := 24) (v := 1) kc_90_23 rfl rfl ?_
          refine xcps2 (α := Int32) ((v17 : Int32) + 1) (fun v18 ev18 => ?_)
          have rv18 := xc_rng v18
          refine xi_iadd (pc' := 25) (v := v18) kc_90_24 rfl ev18 ?_
          refine xcps4 (xj_set (v := v18) hy16 ry16 6 (by first | omega | decide) (by first | omega | decide)) (fun y19 s19 hy19 ry19 => ?_)
          refine xi_iastore (pc' := 26) (x' := y19) kc_90_25 rfl A16 rfl (xi_in (by decide) (by rw [hy16]; decide)) s19 (fun hh19 eh19 => ?_)
          have K20 := xk_pa K (xk_wa rfl) xD_94 hy19 ry19 eh19
          refine xi_iload_n (pc' := 27) (x := (-6)) kc_90_26 rfl rfl ?_
          refine xi_ireturn kc_90_27 mr_90 rfl ?_
          show xw J ov (d + 2) 155 (54, [(0, .ref 0), (1, .int x1), (2, .int x2)], [.int (-6)], hh19) _
          refine xi_ireturn kc_155_54 mr_155 rfl ?_
          have zcm6 : ((-6) : Int32).toInt = (-6) := by decide
          exact kk (-6) hh19 (by omega) K20
        · refine xi_cmf (pc' := 36) kc_155_33 rfl (xc_gt_f (X := x2.toInt) (Y := 999) rfl (by decide) (by omega)) ?_
          refine xi_aload_n (pc' := 37) (x := 0) kc_155_36 rfl rfl ?_
          refine xp_0 K.1 (fun u21 u22 bu21 bu22 A23 => ?_)
          refine xi_getfield (pc' := 40) (v := .ref 75) kc_155_37 rfl rfl rfl A23 rfl ?_
          refine xp_75 K.1 (fun u24 bu24 A25 => ?_)
          refine xi_getfield (pc' := 43) (v := .int u24) kc_155_40 rfl rfl rfl A25 rfl ?_
          refine xi_bipush (pc' := 45) (v := 8) kc_155_43 rfl rfl ?_
          by_cases c26 : u24.toInt < 8
          · refine xi_cmt (pc' := 55) kc_155_45 rfl (xc_lt_t (X := u24.toInt) (Y := 8) rfl (by decide) (by omega)) ?_
            refine xi_aload_n (pc' := 56) (x := 0) kc_155_55 rfl rfl ?_
            refine xi_getfield (pc' := 59) (v := .ref 75) kc_155_56 rfl rfl rfl A23 rfl ?_
            refine xi_iload_n (pc' := 60) (x := x1) kc_155_59 rfl rfl ?_
            refine xi_iload_n (pc' := 61) (x := x2) kc_155_60 rfl rfl ?_
            refine xi_virtual (mj := 156) (as := [.int x1, .int x2]) (st1 := []) (lv0 := [(0, .ref 75), (1, .int x1), (2, .int x2)]) kc_155_61 rfl rfl rfl rfl rfl A25 (Nat.le_of_ble_eq_true rfl) (hJ _ _ _ _ (by decide)) (xm_le ml_156 rfl) rfl ?_
            refine mt_156_0 hJ hov1 hov2 (d := d) (x1 := x1) (x2 := x2) K.1 (by first | omega | decide) (by first | omega | decide) (fun r27 hh28 br27 K29 => ?_)
            have K30 := xk_tr K K29 rfl
            refine xp_0 K30.1 (fun u31 u32 bu31 bu32 A33 => ?_)
            have e34 : u22 = u32 := xk_eqi (q := 9) K29 rfl A23 A33 rfl rfl
            subst e34
            show xw J ov (d + 2) 155 (64, [(0, .ref 0), (1, .int x1), (2, .int x2)], [.int r27], hh28) _
            refine xi_ireturn kc_155_64 mr_155 rfl ?_
            exact kk r27 hh28 (by omega) K30
          · refine xi_cmf (pc' := 48) kc_155_45 rfl (xc_lt_f (X := u24.toInt) (Y := 8) rfl (by decide) (by omega)) ?_
            refine xi_aload_n (pc' := 49) (x := 0) kc_155_48 rfl rfl ?_
            refine xi_bipush (pc' := 51) (v := (-6)) kc_155_49 rfl rfl ?_
            refine xi_virtual (mj := 90) (as := [.int (-6)]) (st1 := []) (lv0 := [(0, .ref 0), (1, .int (-6))]) kc_155_51 rfl rfl rfl rfl rfl A23 (Nat.le_of_ble_eq_true rfl) (hJ _ _ _ _ (by decide)) (xm_le ml_90 rfl) rfl ?_
            refine xi_iload_n (pc' := 1) (x := (-6)) kc_90_0 rfl rfl ?_
            refine xi_ineg (pc' := 2) (v := 6) kc_90_1 rfl rfl ?_
            refine xi_istore_n (pc' := 3) (lv' := [(2, .int 6), (0, .ref 0), (1, .int (-6))]) kc_90_2 rfl rfl (xm_lt ml_90 rfl) ?_
            refine xi_iload_n (pc' := 4) (x := 6) kc_90_3 rfl rfl ?_
            refine xi_iff (pc' := 7) kc_90_4 rfl rfl ?_
            refine xi_iload_n (pc' := 8) (x := 6) kc_90_7 rfl rfl ?_
            refine xi_aload_n (pc' := 9) (x := 0) kc_90_8 rfl rfl ?_
            refine xi_getfield (pc' := 12) (v := .ref 94) kc_90_9 rfl rfl rfl A23 rfl ?_
            refine xcps4 (xk_arr K.1 xD_94) (fun y35 A35 hy35 ry35 => ?_)
            refine xi_arraylength (pc' := 13) (n := 7) (v := 7) kc_90_12 rfl (xl_lenI (by decide) (by decide) A35 hy35) rfl ?_
            refine xi_cmf (pc' := 16) kc_90_13 rfl rfl ?_
            refine xi_aload_n (pc' := 17) (x := 0) kc_90_16 rfl rfl ?_
            refine xi_getfield (pc' := 20) (v := .ref 94) kc_90_17 rfl rfl rfl A23 rfl ?_
            refine xi_iload_n (pc' := 21) (x := 6) kc_90_20 rfl rfl ?_
            refine xi_dup2 (pc' := 22) kc_90_21 rfl ⟨rfl, rfl⟩ ?_
            refine xcps4 (xj_get hy35 ry35 (i := 6) (by decide) (by decide)) (fun v36 ev36 bv36 dv36 => ?_)
            refine xi_iaload (pc' := 23) (v := v36) kc_90_22 rfl A35 (by decide) rfl (xi_in (by decide) (by rw [hy35]; decide)) ev36 ?_
            refine xi_iconst (pc' := 24) (v := 1) kc_90_23 rfl rfl ?_
            refine xcps2 (α := Int32) ((v36 : Int32) + 1) (fun v37 ev37 => ?_)
            have rv37 := xc_rng v37
            refine xi_iadd (pc' := 25) (v := v37) kc_90_24 rfl ev37 ?_
            refine xcps4 (xj_set (v := v37) hy35 ry35 6 (by first | omega | decide) (by first | omega | decide)) (fun y38 s38 hy38 ry38 => ?_)
            refine xi_iastore (pc' := 26) (x' := y38) kc_90_25 rfl A35 rfl (xi_in (by decide) (by rw [hy35]; decide)) s38 (fun hh38 eh38 => ?_)
            have K39 := xk_pa K (xk_wa rfl) xD_94 hy38 ry38 eh38
            refine xi_iload_n (pc' := 27) (x := (-6)) kc_90_26 rfl rfl ?_
            refine xi_ireturn kc_90_27 mr_90 rfl ?_
            show xw J ov (d + 2) 155 (54, [(0, .ref 0), (1, .int x1), (2, .int x2)], [.int (-6)], hh38) _
            refine xi_ireturn kc_155_54 mr_155 rfl ?_
            have zcm6 : ((-6) : Int32).toInt = (-6) := by decide
            exact kk (-6) hh38 (by omega) K39
      · refine xi_cmf (pc' := 22) kc_155_19 rfl (xc_ge_f (X := x2.toInt) (Y := 1) rfl (by decide) (by omega)) ?_
        refine xi_aload_n (pc' := 23) (x := 0) kc_155_22 rfl rfl ?_
        refine xi_bipush (pc' := 25) (v := (-4)) kc_155_23 rfl rfl ?_
        refine xp_0 K.1 (fun u40 u41 bu40 bu41 A42 => ?_)
        refine xi_virtual (mj := 90) (as := [.int (-4)]) (st1 := []) (lv0 := [(0, .ref 0), (1, .int (-4))]) kc_155_25 rfl rfl rfl rfl rfl A42 (Nat.le_of_ble_eq_true rfl) (hJ _ _ _ _ (by decide)) (xm_le ml_90 rfl) rfl ?_
        refine xi_iload_n (pc' := 1) (x := (-4)) kc_90_0 rfl rfl ?_
        refine xi_ineg (pc' := 2) (v := 4) kc_90_1 rfl rfl ?_
        refine xi_istore_n (pc' := 3) (lv' := [(2, .int 4), (0, .ref 0), (1, .int (-4))]) kc_90_2 rfl rfl (xm_lt ml_90 rfl) ?_
        refine xi_iload_n (pc' := 4) (x := 4) kc_90_3 rfl rfl ?_
        refine xi_iff (pc' := 7) kc_90_4 rfl rfl ?_
        refine xi_iload_n (pc' := 8) (x := 4) kc_90_7 rfl rfl ?_
        refine xi_aload_n (pc' := 9) (x := 0) kc_90_8 rfl rfl ?_
        refine xi_getfield (pc' := 12) (v := .ref 94) kc_90_9 rfl rfl rfl A42 rfl ?_
        refine xcps4 (xk_arr K.1 xD_94) (fun y43 A43 hy43 ry43 => ?_)
        refine xi_arraylength (pc' := 13) (n := 7) (v := 7) kc_90_12 rfl (xl_lenI (by decide) (by decide) A43 hy43) rfl ?_
        refine xi_cmf (pc' := 16) kc_90_13 rfl rfl ?_
        refine xi_aload_n (pc' := 17) (x := 0) kc_90_16 rfl rfl ?_
        refine xi_getfield (pc' := 20) (v := .ref 94) kc_90_17 rfl rfl rfl A42 rfl ?_
        refine xi_iload_n (pc' := 21) (x := 4) kc_90_20 rfl rfl ?_
        refine xi_dup2 (pc' := 22) kc_90_21 rfl ⟨rfl, rfl⟩ ?_
        refine xcps4 (xj_get hy43 ry43 (i := 4) (by decide) (by decide)) (fun v44 ev44 bv44 dv44 => ?_)
        refine xi_iaload (pc' := 23) (v := v44) kc_90_22 rfl A43 (by decide) rfl (xi_in (by decide) (by rw [hy43]; decide)) ev44 ?_
        refine xi_iconst (pc' := 24) (v := 1) kc_90_23 rfl rfl ?_
        refine xcps2 (α := Int32) ((v44 : Int32) + 1) (fun v45 ev45 => ?_)
        have rv45 := xc_rng v45
        refine xi_iadd (pc' := 25) (v := v45) kc_90_24 rfl ev45 ?_
        refine xcps4 (xj_set (v := v45) hy43 ry43 4 (by first | omega | decide) (by first | omega | decide)) (fun y46 s46 hy46 ry46 => ?_)
        refine xi_iastore (pc' := 26) (x' := y46) kc_90_25 rfl A43 rfl (xi_in (by decide) (by rw [hy43]; decide)) s46 (fun hh46 eh46 => ?_)
        have K47 := xk_pa K (xk_wa rfl) xD_94 hy46 ry46 eh46
        refine xi_iload_n (pc' := 27) (x := (-4)) kc_90_26 rfl rfl ?_
        refine xi_ireturn kc_90_27 mr_90 rfl ?_
        show xw J ov (d + 2) 155 (28, [(0, .ref 0), (1, .int x1), (2, .int x2)], [.int (-4)], hh46) _
        refine xi_ireturn kc_155_28 mr_155 rfl ?_
        have zcm4 : ((-4) : Int32).toInt = (-4) := by decide
        exact kk (-4) hh46 (by omega) K47
    · refine xi_cmf (pc' := 10) kc_155_7 rfl (xc_lt_f (X := x1.toInt) (Y := 64) rfl (by decide) (by omega)) ?_
      refine xi_aload_n (pc' := 11) (x := 0) kc_155_10 rfl rfl ?_
      refine xi_bipush (pc' := 13) (v := (-2)) kc_155_11 rfl rfl ?_
      refine xp_0 K.1 (fun u48 u49 bu48 bu49 A50 => ?_)
      refine xi_virtual (mj := 90) (as := [.int (-2)]) (st1 := []) (lv0 := [(0, .ref 0), (1, .int (-2))]) kc_155_13 rfl rfl rfl rfl rfl A50 (Nat.le_of_ble_eq_true rfl) (hJ _ _ _ _ (by decide)) (xm_le ml_90 rfl) rfl ?_
      refine xi_iload_n (pc' := 1) (x := (-2)) kc_90_0 rfl rfl ?_
      refine xi_ineg (pc' := 2) (v := 2) kc_90_1 rfl rfl ?_
      refine xi_istore_n (pc' := 3) (lv' := [(2, .int 2), (0, .ref 0), (1, .int (-2))]) kc_90_2 rfl rfl (xm_lt ml_90 rfl) ?_
      refine xi_iload_n (pc' := 4) (x := 2) kc_90_3 rfl rfl ?_
      refine xi_iff (pc' := 7) kc_90_4 rfl rfl ?_
      refine xi_iload_n (pc' := 8) (x := 2) kc_90_7 rfl rfl ?_
      refine xi_aload_n (pc' := 9) (x := 0) kc_90_8 rfl rfl ?_
      refine xi_getfield (pc' := 12) (v := .ref 94) kc_90_9 rfl rfl rfl A50 rfl ?_
      refine xcps4 (xk_arr K.1 xD_94) (fun y51 A51 hy51 ry51 => ?_)
      refine xi_arraylength (pc' := 13) (n := 7) (v := 7) kc_90_12 rfl (xl_lenI (by decide) (by decide) A51 hy51) rfl ?_
      refine xi_cmf (pc' := 16) kc_90_13 rfl rfl ?_
      refine xi_aload_n (pc' := 17) (x := 0) kc_90_16 rfl rfl ?_
      refine xi_getfield (pc' := 20) (v := .ref 94) kc_90_17 rfl rfl rfl A50 rfl ?_
      refine xi_iload_n (pc' := 21) (x := 2) kc_90_20 rfl rfl ?_
      refine xi_dup2 (pc' := 22) kc_90_21 rfl ⟨rfl, rfl⟩ ?_
      refine xcps4 (xj_get hy51 ry51 (i := 2) (by decide) (by decide)) (fun v52 ev52 bv52 dv52 => ?_)
      refine xi_iaload (pc' := 23) (v := v52) kc_90_22 rfl A51 (by decide) rfl (xi_in (by decide) (by rw [hy51]; decide)) ev52 ?_
      refine xi_iconst (pc' := 24) (v := 1) kc_90_23 rfl rfl ?_
      refine xcps2 (α := Int32) ((v52 : Int32) + 1) (fun v53 ev53 => ?_)
      have rv53 := xc_rng v53
      refine xi_iadd (pc' := 25) (v := v53) kc_90_24 rfl ev53 ?_
      refine xcps4 (xj_set (v := v53) hy51 ry51 2 (by first | omega | decide) (by first | omega | decide)) (fun y54 s54 hy54 ry54 => ?_)
      refine xi_iastore (pc' := 26) (x' := y54) kc_90_25 rfl A51 rfl (xi_in (by decide) (by rw [hy51]; decide)) s54 (fun hh54 eh54 => ?_)
      have K55 := xk_pa K (xk_wa rfl) xD_94 hy54 ry54 eh54
      refine xi_iload_n (pc' := 27) (x := (-2)) kc_90_26 rfl rfl ?_
      refine xi_ireturn kc_90_27 mr_90 rfl ?_
      show xw J ov (d + 2) 155 (16, [(0, .ref 0), (1, .int x1), (2, .int x2)], [.int (-2)], hh54) _
      refine xi_ireturn kc_155_16 mr_155 rfl ?_
      have zcm2 : ((-2) : Int32).toInt = (-2) := by decide
      exact kk (-2) hh54 (by omega) K55
set_option maxHeartbeats 4000000 in
theorem mt_157_0 {J : xe_J} {ov : List (List Int32)} (hJ : ∀ d mj as h, mj ≠ xe_loff → J d mj as h = none) (hov1 : ov[1]? = some [10, 0, 0, 0, 0, 0]) (hov2 : ov[2]? = some [99, 30, 50, 50, 1, 99999]) {d : Nat} {Q : Option Value → xe_H → Prop} {h : xe_H} {x1 : Int32} {x2 : Int32} (T : xt h) (b2 : (0 ≤ x2.toInt ∧ x2.toInt ≤ 1)) (kk : (∀ (r : Int32) (h' : xe_H), xk [(0, 9), (115, 1), (83, 0), (29, 0), (31, 0), (33, 0), (35, 0), (37, 0), (39, 0), (41, 0), (43, 0), (45, 0), (47, 0), (49, 0), (51, 0), (125, 0), (66, 8), (115, 18), (71, 0), (132, 0)] h h' → Q (some (.int r)) h')) : xw J ov (d + 8) 157 (0, [(0, .ref 0), (1, .int x1), (2, .int x2)], [], h) Q := by
  have K : xk [(0, 9), (115, 1), (83, 0), (29, 0), (31, 0), (33, 0), (35, 0), (37, 0), (39, 0), (41, 0), (43, 0), (45, 0), (47, 0), (49, 0), (51, 0), (125, 0), (66, 8), (115, 18), (71, 0), (132, 0)] h h := xk_re T
  have rx1 := xc_rng x1
  refine xi_iload_n (pc' := 1) (x := x1) kc_157_0 rfl rfl ?_
  by_cases c1 : x1.toInt < 0
  · refine xi_ift (pc' := 21) kc_157_1 rfl (xc_lt_t (X := x1.toInt) (Y := 0) rfl (by decide) (by omega)) ?_
    refine xi_aload_n (pc' := 22) (x := 0) kc_157_21 rfl rfl ?_
    refine xi_iconst (pc' := 23) (v := (-1)) kc_157_22 rfl rfl ?_
    refine xp_0 K.1 (fun u2 u3 bu2 bu3 A4 => ?_)
    refine xi_virtual (mj := 90) (as := [.int (-1)]) (st1 := []) (lv0 := [(0, .ref 0), (1, .int (-1))]) kc_157_23 rfl rfl rfl rfl rfl A4 (Nat.le_of_ble_eq_true rfl) (hJ _ _ _ _ (by decide)) (xm_le ml_90 rfl) rfl ?_
    refine xi_iload_n (pc' := 1) (x := (-1)) kc_90_0 rfl rfl ?_
    refine xi_ineg (pc' := 2) (v := 1) kc_90_1 rfl rfl ?_
    refine xi_istore_n (pc' := 3) (lv' := [(2, .int 1), (0, .ref 0), (1, .int (-1))]) kc_90_2 rfl rfl (xm_lt ml_90 rfl) ?_
    refine xi_iload_n (pc' := 4) (x := 1) kc_90_3 rfl rfl ?_
    refine xi_iff (pc' := 7) kc_90_4 rfl rfl ?_
    refine xi_iload_n (pc' := 8) (x := 1) kc_90_7 rfl rfl ?_
    refine xi_aload_n (pc' := 9) (x := 0) kc_90_8 rfl rfl ?_
    refine xi_getfield (pc' := 12) (v := .ref 94) kc_90_9 rfl rfl rfl A4 rfl ?_
    refine xcps4 (xk_arr K.1 xD_94) (fun y5 A5 hy5 ry5 => ?_)
    refine xi_arraylength (pc' := 13) (n := 7) (v := 7) kc_90_12 rfl (xl_lenI (by decide) (by decide) A5 hy5) rfl ?_
    refine xi_cmf (pc' := 16) kc_90_13 rfl rfl ?_
    refine xi_aload_n (pc' := 17) (x := 0) kc_90_16 rfl rfl ?_
    refine xi_getfield (pc' := 20) (v := .ref 94) kc_90_17 rfl rfl rfl A4 rfl ?_
    refine xi_iload_n (pc' := 21) (x := 1) kc_90_20 rfl rfl ?_
    refine xi_dup2 (pc' := 22) kc_90_21 rfl ⟨rfl, rfl⟩ ?_
    refine xcps4 (xj_get hy5 ry5 (i := 1) (by decide) (by decide)) (fun v6 ev6 bv6 dv6 => ?_)
    refine xi_iaload (pc' := 23) (v := v6) kc_90_22 rfl A5 (by decide) rfl (xi_in (by decide) (by rw [hy5]; decide)) ev6 ?_
    refine xi_iconst (pc' := 24) (v := 1) kc_90_23 rfl rfl ?_
    refine xcps2 (α := Int32) ((v6 : Int32) + 1) (fun v7 ev7 => ?_)
    have rv7 := xc_rng v7
    refine xi_iadd (pc' := 25) (v := v7) kc_90_24 rfl ev7 ?_
    refine xcps4 (xj_set (v := v7) hy5 ry5 1 (by first | omega | decide) (by first | omega | decide)) (fun y8 s8 hy8 ry8 => ?_)
    refine xi_iastore (pc' := 26) (x' := y8) kc_90_25 rfl A5 rfl (xi_in (by decide) (by rw [hy5]; decide)) s8 (fun hh8 eh8 => ?_)
    have K9 := xk_pa K (xk_wa rfl) xD_94 hy8 ry8 eh8
    refine xi_iload_n (pc' := 27) (x := (-1)) kc_90_26 rfl rfl ?_
    refine xi_ireturn kc_90_27 mr_90 rfl ?_
    show xw J ov (d + 8) 157 (26, [(0, .ref 0), (1, .int x1), (2, .int x2)], [.int (-1)], hh8) _
    refine xi_ireturn kc_157_26 mr_157 rfl ?_
    have zcm1 : ((-1) : Int32).toInt = (-1) := by decide
    exact kk (-1) hh8 K9
  · refine xi_iff (pc' := 4) kc_157_1 rfl (xc_lt_f (X := x1.toInt) (Y := 0) rfl (by decide) (by omega)) ?_
    refine xi_iload_n (pc' := 5) (x := x1) kc_157_4 rfl rfl ?_
    refine xi_aload_n (pc' := 6) (x := 0) kc_157_5 rfl rfl ?_
    refine xp_0 K.1 (fun u10 u11 bu10 bu11 A12 => ?_)
    refine xi_getfield (pc' := 9) (v := .ref 75) kc_157_6 rfl rfl rfl A12 rfl ?_
    refine xp_75 K.1 (fun u13 bu13 A14 => ?_)
    refine xi_getfield (pc' := 12) (v := .int u13) kc_157_9 rfl rfl rfl A14 rfl ?_
    by_cases c15 : u13.toInt ≤ x1.toInt
    · refine xi_cmt (pc' := 21) kc_157_12 rfl (xc_ge_t (X := x1.toInt) (Y := u13.toInt) rfl rfl (by omega)) ?_
      refine xi_aload_n (pc' := 22) (x := 0) kc_157_21 rfl rfl ?_
      refine xi_iconst (pc' := 23) (v := (-1)) kc_157_22 rfl rfl ?_
      refine xi_virtual (mj := 90) (as := [.int (-1)]) (st1 := []) (lv0 := [(0, .ref 0), (1, .int (-1))]) kc_157_23 rfl rfl rfl rfl rfl A12 (Nat.le_of_ble_eq_true rfl) (hJ _ _ _ _ (by decide)) (xm_le ml_90 rfl) rfl ?_
      refine xi_iload_n (pc' := 1) (x := (-1)) kc_90_0 rfl rfl ?_
      refine xi_ineg (pc' := 2) (v := 1) kc_90_1 rfl rfl ?_
      refine xi_istore_n (pc' := 3) (lv' := [(2, .int 1), (0, .ref 0), (1, .int (-1))]) kc_90_2 rfl rfl (xm_lt ml_90 rfl) ?_
      refine xi_iload_n (pc' := 4) (x := 1) kc_90_3 rfl rfl ?_
      refine xi_iff (pc' := 7) kc_90_4 rfl rfl ?_
      refine xi_iload_n (pc' := 8) (x := 1) kc_90_7 rfl rfl ?_
      refine xi_aload_n (pc' := 9) (x := 0) kc_90_8 rfl rfl ?_
      refine xi_getfield (pc' := 12) (v := .ref 94) kc_90_9 rfl rfl rfl A12 rfl ?_
      refine xcps4 (xk_arr K.1 xD_94) (fun y16 A16 hy16 ry16 => ?_)
      refine xi_arraylength (pc' := 13) (n := 7) (v := 7) kc_90_12 rfl (xl_lenI (by decide) (by decide) A16 hy16) rfl ?_
      refine xi_cmf (pc' := 16) kc_90_13 rfl rfl ?_
      refine xi_aload_n (pc' := 17) (x := 0) kc_90_16 rfl rfl ?_
      refine xi_getfield (pc' := 20) (v := .ref 94) kc_90_17 rfl rfl rfl A12 rfl ?_
      refine xi_iload_n (pc' := 21) (x := 1) kc_90_20 rfl rfl ?_
      refine xi_dup2 (pc' := 22) kc_90_21 rfl ⟨rfl, rfl⟩ ?_
      refine xcps4 (xj_get hy16 ry16 (i := 1) (by decide) (by decide)) (fun v17 ev17 bv17 dv17 => ?_)
      refine xi_iaload (pc' := 23) (v := v17) kc_90_22 rfl A16 (by decide) rfl (xi_in (by decide) (by rw [hy16]; decide)) ev17 ?_
      refine xi_iconst (pc' := 24) (v := 1) kc_90_23 rfl rfl ?_
      refine xcps2 (α := Int32) ((v17 : Int32) + 1) (fun v18 ev18 => ?_)
      have rv18 := xc_rng v18
      refine xi_iadd (pc' := 25) (v := v18) kc_90_24 rfl ev18 ?_
      refine xcps4 (xj_set (v := v18) hy16 ry16 1 (by first | omega | decide) (by first | omega | decide)) (fun y19 s19 hy19 ry19 => ?_)
      refine xi_iastore (pc' := 26) (x' := y19) kc_90_25 rfl A16 rfl (xi_in (by decide) (by rw [hy16]; decide)) s19 (fun hh19 eh19 => ?_)
      have K20 := xk_pa K (xk_wa rfl) xD_94 hy19 ry19 eh19
      refine xi_iload_n (pc' := 27) (x := (-1)) kc_90_26 rfl rfl ?_
      refine xi_ireturn kc_90_27 mr_90 rfl ?_
      show xw J ov (d + 8) 157 (26, [(0, .ref 0), (1, .int x1), (2, .int x2)], [.int (-1)], hh19) _
      refine xi_ireturn kc_157_26 mr_157 rfl ?_
      have zcm1 : ((-1) : Int32).toInt = (-1) := by decide
      exact kk (-1) hh19 K20
    · refine xi_cmf (pc' := 15) kc_157_12 rfl (xc_ge_f (X := x1.toInt) (Y := u13.toInt) rfl rfl (by omega)) ?_
      refine xi_iload_n (pc' := 16) (x := x1) kc_157_15 rfl rfl ?_
      refine xi_bipush (pc' := 18) (v := 8) kc_157_16 rfl rfl ?_
      refine xi_cmt (pc' := 27) kc_157_18 rfl (xc_lt_t (X := x1.toInt) (Y := 8) rfl (by decide) (by omega)) ?_
      refine xi_aload_n (pc' := 28) (x := 0) kc_157_27 rfl rfl ?_
      refine xi_getfield (pc' := 31) (v := .ref 75) kc_157_28 rfl rfl rfl A12 rfl ?_
      refine xi_getfield (pc' := 34) (v := .ref 79) kc_157_31 rfl rfl rfl A14 rfl ?_
      refine xi_iload_n (pc' := 35) (x := x1) kc_157_34 rfl rfl ?_
      refine xcps4 (xk_arr K.1 xD_79) (fun y21 A21 hy21 ry21 => ?_)
      refine xcps4 (xj_get hy21 ry21 (i := x1) (by omega) (by omega)) (fun v22 ev22 bv22 dv22 => ?_)
      refine xi_iaload (pc' := 36) (v := v22) kc_157_35 rfl A21 (by decide) rfl (xi_in (by omega) (by rw [hy21]; omega)) ev22 ?_
      by_cases c23 : v22.toInt = 0
      · refine xi_ift (pc' := 46) kc_157_36 rfl (xc_eq_t (X := v22.toInt) (Y := 0) rfl (by decide) (by omega)) ?_
        refine xi_aload_n (pc' := 47) (x := 0) kc_157_46 rfl rfl ?_
        refine xi_getfield (pc' := 50) (v := .ref 75) kc_157_47 rfl rfl rfl A12 rfl ?_
        refine xi_getfield (pc' := 53) (v := .ref 79) kc_157_50 rfl rfl rfl A14 rfl ?_
        refine xi_iload_n (pc' := 54) (x := x1) kc_157_53 rfl rfl ?_
        refine xi_iload_n (pc' := 55) (x := x2) kc_157_54 rfl rfl ?_
        by_cases c24 : x2.toInt = 0
        · refine xi_ift (pc' := 62) kc_157_55 rfl (xc_eq_t (X := x2.toInt) (Y := 0) rfl (by decide) (by omega)) ?_
          refine xi_iconst (pc' := 63) (v := 2) kc_157_62 rfl rfl ?_
          refine xcps4 (xj_set (v := 2) hy21 ry21 x1 (by first | omega | decide) (by first | omega | decide)) (fun y25 s25 hy25 ry25 => ?_)
          refine xi_iastore (pc' := 64) (x' := y25) kc_157_63 rfl A21 rfl (xi_in (by omega) (by rw [hy21]; omega)) s25 (fun hh25 eh25 => ?_)
          have K26 := xk_pa K (xk_wa rfl) xD_79 hy25 ry25 eh25
          refine xi_aload_n (pc' := 65) (x := 0) kc_157_64 rfl rfl ?_
          have A27 := ((eh25.2.1 0 (by decide)).trans A12)
          refine xi_virtual (mj := 152) (as := []) (st1 := []) (lv0 := [(0, .ref 0)]) kc_157_65 rfl rfl rfl rfl rfl A27 (Nat.le_of_ble_eq_true rfl) (hJ _ _ _ _ (by decide)) (xm_le ml_152 rfl) rfl ?_
          refine mt_152_0 hJ hov1 hov2 (d := d)  K26.1 (fun r28 hh29 K30 => ?_)
          have K31 := xk_tr K26 K30 rfl
          refine xp_0 K31.1 (fun u32 u33 bu32 bu33 A34 => ?_)
          have e35 : u11 = u33 := xk_eqi (q := 9) K30 rfl A27 A34 rfl rfl
          subst e35
          show xw J ov (d + 8) 157 (68, [(0, .ref 0), (1, .int x1), (2, .int x2)], [.long r28], hh29) _
          refine xi_static (mj := 5) (as := [.long r28]) (st1 := []) (lv0 := [(0, .long r28)]) kc_157_68 rfl rfl (Nat.le_of_ble_eq_true rfl) rfl rfl (Nat.le_of_ble_eq_true rfl) (hJ _ _ _ _ (by decide)) (xm_le ml_5 rfl) rfl ?_
          refine mt_5_0 hJ hov1 hov2 (d := d + 6) (w0 := r28) K31.1 (fun r36 hh37 K38 => ?_)
          have br36 := xc_rng r36
          have K39 := xk_tr K31 K38 rfl
          refine xp_0 K39.1 (fun u40 u41 bu40 bu41 A42 => ?_)
          have e43 : u11 = u41 := xk_eqi (q := 9) K38 rfl A34 A42 rfl rfl
          subst e43
          show xw J ov (d + 8) 157 (71, [(0, .ref 0), (1, .int x1), (2, .int x2)], [.int r36], hh37) _
          refine xi_ireturn kc_157_71 mr_157 rfl ?_
          exact kk r36 hh37 K39
        · refine xi_iff (pc' := 58) kc_157_55 rfl (xc_eq_f (X := x2.toInt) (Y := 0) rfl (by decide) (by omega)) ?_
          refine xi_iconst (pc' := 59) (v := 1) kc_157_58 rfl rfl ?_
          refine xi_goto (pc' := 63) kc_157_59 rfl ?_
          refine xcps4 (xj_set (v := 1) hy21 ry21 x1 (by first | omega | decide) (by first | omega | decide)) (fun y44 s44 hy44 ry44 => ?_)
          refine xi_iastore (pc' := 64) (x' := y44) kc_157_63 rfl A21 rfl (xi_in (by omega) (by rw [hy21]; omega)) s44 (fun hh44 eh44 => ?_)
          have K45 := xk_pa K (xk_wa rfl) xD_79 hy44 ry44 eh44
          refine xi_aload_n (pc' := 65) (x := 0) kc_157_64 rfl rfl ?_
          have A46 := ((eh44.2.1 0 (by decide)).trans A12)
          refine xi_virtual (mj := 152) (as := []) (st1 := []) (lv0 := [(0, .ref 0)]) kc_157_65 rfl rfl rfl rfl rfl A46 (Nat.le_of_ble_eq_true rfl) (hJ _ _ _ _ (by decide)) (xm_le ml_152 rfl) rfl ?_
          refine mt_152_0 hJ hov1 hov2 (d := d)  K45.1 (fun r47 hh48 K49 => ?_)
          have K50 := xk_tr K45 K49 rfl
          refine xp_0 K50.1 (fun u51 u52 bu51 bu52 A53 => ?_)
          have e54 : u11 = u52 := xk_eqi (q := 9) K49 rfl A46 A53 rfl rfl
          subst e54
          show xw J ov (d + 8) 157 (68, [(0, .ref 0), (1, .int x1), (2, .int x2)], [.long r47], hh48) _
          refine xi_static (mj := 5) (as := [.long r47]) (st1 := []) (lv0 := [(0, .long r47)]) kc_157_68 rfl rfl (Nat.le_of_ble_eq_true rfl) rfl rfl (Nat.le_of_ble_eq_true rfl) (hJ _ _ _ _ (by decide)) (xm_le ml_5 rfl) rfl ?_
          refine mt_5_0 hJ hov1 hov2 (d := d + 6) (w0 := r47) K50.1 (fun r55 hh56 K57 => ?_)
          have br55 := xc_rng r55
          have K58 := xk_tr K50 K57 rfl
          refine xp_0 K58.1 (fun u59 u60 bu59 bu60 A61 => ?_)
          have e62 : u11 = u60 := xk_eqi (q := 9) K57 rfl A53 A61 rfl rfl
          subst e62
          show xw J ov (d + 8) 157 (71, [(0, .ref 0), (1, .int x1), (2, .int x2)], [.int r55], hh56) _
          refine xi_ireturn kc_157_71 mr_157 rfl ?_
          exact kk r55 hh56 K58
      · refine xi_iff (pc' := 39) kc_157_36 rfl (xc_eq_f (X := v22.toInt) (Y := 0) rfl (by decide) (by omega)) ?_
        refine xi_aload_n (pc' := 40) (x := 0) kc_157_39 rfl rfl ?_
        refine xi_bipush (pc' := 42) (v := (-3)) kc_157_40 rfl rfl ?_
        refine xi_virtual (mj := 90) (as := [.int (-3)]) (st1 := []) (lv0 := [(0, .ref 0), (1, .int (-3))]) kc_157_42 rfl rfl rfl rfl rfl A12 (Nat.le_of_ble_eq_true rfl) (hJ _ _ _ _ (by decide)) (xm_le ml_90 rfl) rfl ?_
        refine xi_iload_n (pc' := 1) (x := (-3)) kc_90_0 rfl rfl ?_
        refine xi_ineg (pc' := 2) (v := 3) kc_90_1 rfl rfl ?_
        refine xi_istore_n (pc' := 3) (lv' := [(2, .int 3), (0, .ref 0), (1, .int (-3))]) kc_90_2 rfl rfl (xm_lt ml_90 rfl) ?_
        refine xi_iload_n (pc' := 4) (x := 3) kc_90_3 rfl rfl ?_
        refine xi_iff (pc' := 7) kc_90_4 rfl rfl ?_
        refine xi_iload_n (pc' := 8) (x := 3) kc_90_7 rfl rfl ?_
        refine xi_aload_n (pc' := 9) (x := 0) kc_90_8 rfl rfl ?_
        refine xi_getfield (pc' := 12) (v := .ref 94) kc_90_9 rfl rfl rfl A12 rfl ?_
        refine xcps4 (xk_arr K.1 xD_94) (fun y63 A63 hy63 ry63 => ?_)
        refine xi_arraylength (pc' := 13) (n := 7) (v := 7) kc_90_12 rfl (xl_lenI (by decide) (by decide) A63 hy63) rfl ?_
        refine xi_cmf (pc' := 16) kc_90_13 rfl rfl ?_
        refine xi_aload_n (pc' := 17) (x := 0) kc_90_16 rfl rfl ?_
        refine xi_getfield (pc' := 20) (v := .ref 94) kc_90_17 rfl rfl rfl A12 rfl ?_
        refine xi_iload_n (pc' := 21) (x := 3) kc_90_20 rfl rfl ?_
        refine xi_dup2 (pc' := 22) kc_90_21 rfl ⟨rfl, rfl⟩ ?_
        refine xcps4 (xj_get hy63 ry63 (i := 3) (by decide) (by decide)) (fun v64 ev64 bv64 dv64 => ?_)
        refine xi_iaload (pc' := 23) (v := v64) kc_90_22 rfl A63 (by decide) rfl (xi_in (by decide) (by rw [hy63]; decide)) ev64 ?_
        refine xi_iconst (pc' := 24) (v := 1) kc_90_23 rfl rfl ?_
        refine xcps2 (α := Int32) ((v64 : Int32) + 1) (fun v65 ev65 => ?_)
        have rv65 := xc_rng v65
        refine xi_iadd (pc' := 25) (v := v65) kc_90_24 rfl ev65 ?_
        refine xcps4 (xj_set (v := v65) hy63 ry63 3 (by first | omega | decide) (by first | omega | decide)) (fun y66 s66 hy66 ry66 => ?_)
        refine xi_iastore (pc' := 26) (x' := y66) kc_90_25 rfl A63 rfl (xi_in (by decide) (by rw [hy63]; decide)) s66 (fun hh66 eh66 => ?_)
        have K67 := xk_pa K (xk_wa rfl) xD_94 hy66 ry66 eh66
        refine xi_iload_n (pc' := 27) (x := (-3)) kc_90_26 rfl rfl ?_
        refine xi_ireturn kc_90_27 mr_90 rfl ?_
        show xw J ov (d + 8) 157 (45, [(0, .ref 0), (1, .int x1), (2, .int x2)], [.int (-3)], hh66) _
        refine xi_ireturn kc_157_45 mr_157 rfl ?_
        have zcm3 : ((-3) : Int32).toInt = (-3) := by decide
        exact kk (-3) hh66 K67
set_option maxHeartbeats 4000000 in
theorem mt_6_0 {J : xe_J} {ov : List (List Int32)} (hJ : ∀ d mj as h, mj ≠ xe_loff → J d mj as h = none) (hov1 : ov[1]? = some [10, 0, 0, 0, 0, 0]) (hov2 : ov[2]? = some [99, 30, 50, 50, 1, 99999]) {d : Nat} {Q : Option Value → xe_H → Prop} {h : xe_H} {x0 : Int32} {x1 : Int32} (T : xt h) (kk : (∀ (r : Int32) (h' : xe_H), xk [(0, 9), (115, 1), (83, 0), (29, 0), (31, 0), (33, 0), (35, 0), (37, 0), (39, 0), (41, 0), (43, 0), (45, 0), (47, 0), (49, 0), (51, 0), (125, 0), (66, 8), (115, 18), (71, 0), (132, 0)] h h' → Q (some (.int r)) h')) : xw J ov (d + 1) 6 (0, [(0, .int x0), (1, .int x1)], [], h) Q := by
  have K : xk [(0, 9), (115, 1), (83, 0), (29, 0), (31, 0), (33, 0), (35, 0), (37, 0), (39, 0), (41, 0), (43, 0), (45, 0), (47, 0), (49, 0), (51, 0), (125, 0), (66, 8), (115, 18), (71, 0), (132, 0)] h h := xk_re T
  have rx0 := xc_rng x0
  have rx1 := xc_rng x1
  refine xi_iload_n (pc' := 1) (x := x0) kc_6_0 rfl rfl ?_
  refine xi_iload_n (pc' := 2) (x := x1) kc_6_1 rfl rfl ?_
  by_cases c1 : x0.toInt < x1.toInt
  · refine xi_cmt (pc' := 9) kc_6_2 rfl (xc_lt_t (X := x0.toInt) (Y := x1.toInt) rfl rfl (by omega)) ?_
    refine xi_iload_n (pc' := 10) (x := x1) kc_6_9 rfl rfl ?_
    refine xi_ireturn kc_6_10 mr_6 rfl ?_
    exact kk x1 h K
  · refine xi_cmf (pc' := 5) kc_6_2 rfl (xc_lt_f (X := x0.toInt) (Y := x1.toInt) rfl rfl (by omega)) ?_
    refine xi_iload_n (pc' := 6) (x := x0) kc_6_5 rfl rfl ?_
    refine xi_goto (pc' := 10) kc_6_6 rfl ?_
    refine xi_ireturn kc_6_10 mr_6 rfl ?_
    exact kk x0 h K
set_option maxHeartbeats 4000000 in
theorem lp_159_0 {J : xe_J} {ov : List (List Int32)} (hJ : ∀ d mj as h, mj ≠ xe_loff → J d mj as h = none) (hov1 : ov[1]? = some [10, 0, 0, 0, 0, 0]) (hov2 : ov[2]? = some [99, 30, 50, 50, 1, 99999]) {d : Nat} {Q : Option Value → xe_H → Prop} {hb : xe_H} (kk : (∀ (r : Int32) (h' : xe_H), ((-9) ≤ r.toInt ∧ r.toInt ≤ 7) → xk [(0, 9), (115, 1), (83, 0), (29, 0), (31, 0), (33, 0), (35, 0), (37, 0), (39, 0), (41, 0), (43, 0), (45, 0), (47, 0), (49, 0), (51, 0), (125, 0), (66, 8), (115, 18), (71, 0), (132, 0)] hb h' → Q (some (.int r)) h')) : ∀ m : Nat, (∀ (w1 : Int64) (x3 : Int32) (x4 : Int32) (x5 : Int32) (h : xe_H), ((-9) ≤ x3.toInt ∧ x3.toInt ≤ 7) → (0 ≤ x5.toInt ∧ x5.toInt ≤ 8) → xk [(0, 9), (115, 1), (83, 0), (29, 0), (31, 0), (33, 0), (35, 0), (37, 0), (39, 0), (41, 0), (43, 0), (45, 0), (47, 0), (49, 0), (51, 0), (125, 0), (66, 8), (115, 18), (71, 0), (132, 0)] hb h → (-1) * x5.toInt + 8 < (m : Int) → xw J ov (d + 2) 159 (9, [(0, .ref 75), (1, .long w1), (3, .int x3), (4, .int x4), (5, .int x5)], [], h) Q) := by
  intro m
  induction m with
  | zero =>
    intro w1 x3 x4 x5 h b3 b5 K hm; have rx4 := xc_rng x4; exfalso; omega
  | succ m ih =>
    have i0 := ih
    intro w1 x3 x4 x5 h b3 b5 K hm
    have rx4 := xc_rng x4
    refine xi_iload (pc' := 11) (x := x5) kc_159_9 rfl rfl ?_
    refine xi_aload_n (pc' := 12) (x := 75) kc_159_11 rfl rfl ?_
    refine xp_75 K.1 (fun u1 bu1 A2 => ?_)
    refine xi_getfield (pc' := 15) (v := .int u1) kc_159_12 rfl rfl rfl A2 rfl ?_
    by_cases c3 : u1.toInt ≤ x5.toInt
    · refine xi_cmt (pc' := 116) kc_159_15 rfl (xc_ge_t (X := x5.toInt) (Y := u1.toInt) rfl rfl (by omega)) ?_
      refine xi_iload_n (pc' := 117) (x := x3) kc_159_116 rfl rfl ?_
      refine xi_ireturn kc_159_117 mr_159 rfl ?_
      exact kk x3 h (by omega) K
    · refine xi_cmf (pc' := 18) kc_159_15 rfl (xc_ge_f (X := x5.toInt) (Y := u1.toInt) rfl rfl (by omega)) ?_
      refine xi_iload (pc' := 20) (x := x5) kc_159_18 rfl rfl ?_
      refine xi_bipush (pc' := 22) (v := 8) kc_159_20 rfl rfl ?_
      refine xi_cmf (pc' := 25) kc_159_22 rfl (xc_ge_f (X := x5.toInt) (Y := 8) rfl (by decide) (by omega)) ?_
      refine xi_lload_n (pc' := 26) (x := w1) kc_159_25 rfl rfl ?_
      refine xi_lconst (pc' := 27) (v := 0) kc_159_26 rfl rfl ?_
      refine xcps2 (α := Int32) (lg_cmp w1 0) (fun v4 ev4 => ?_)
      have rv4 := xc_rng v4
      refine xi_lcmp (pc' := 28) (v := v4) kc_159_27 rfl ev4 ?_
      by_cases c5 : v4.toInt = 0
      · refine xi_ift (pc' := 116) kc_159_28 rfl (xc_eq_t (X := v4.toInt) (Y := 0) rfl (by decide) (by omega)) ?_
        refine xi_iload_n (pc' := 117) (x := x3) kc_159_116 rfl rfl ?_
        refine xi_ireturn kc_159_117 mr_159 rfl ?_
        exact kk x3 h (by omega) K
      · have zw1c5 : w1 ≠ 0 := xj_lc ev4 (by omega)
        refine xi_iff (pc' := 31) kc_159_28 rfl (xc_eq_f (X := v4.toInt) (Y := 0) rfl (by decide) (by omega)) ?_
        refine xi_lload_n (pc' := 32) (x := w1) kc_159_31 rfl rfl ?_
        refine xi_aload_n (pc' := 33) (x := 75) kc_159_32 rfl rfl ?_
        refine xi_getfield (pc' := 36) (v := .ref 76) kc_159_33 rfl rfl rfl A2 rfl ?_
        refine xi_iload (pc' := 38) (x := x5) kc_159_36 rfl rfl ?_
        obtain ⟨y6, A6, hy6⟩ := xk_larr K.1 xD_76
        refine xcps2 (α := Int64) (y6.getD (Int32.toNatClampNeg x5) 0) (fun v7 ev7 => ?_)
        refine xi_laload (pc' := 39) (v := v7) kc_159_38 rfl A6 rfl (xi_in (by omega) (by rw [hy6]; omega)) ev7 ?_
        refine xcps2 (α := Int64) ((w1 : Int64) &&& v7) (fun v8 ev8 => ?_)
        refine xi_land (pc' := 40) (v := v8) kc_159_39 rfl ev8 ?_
        refine xi_static (mj := 5) (as := [.long v8]) (st1 := []) (lv0 := [(0, .long v8)]) kc_159_40 rfl rfl (Nat.le_of_ble_eq_true rfl) rfl rfl (Nat.le_of_ble_eq_true rfl) (hJ _ _ _ _ (by decide)) (xm_le ml_5 rfl) rfl ?_
        refine mt_5_0 hJ hov1 hov2 (d := d) (w0 := v8) K.1 (fun r9 hh10 K11 => ?_)
        have br9 := xc_rng r9
        have K12 := xk_tr K K11 rfl
        show xw J ov (d + 2) 159 (43, [(0, .ref 75), (1, .long w1), (3, .int x3), (4, .int x4), (5, .int x5)], [.int r9], hh10) _
        refine xi_istore (pc' := 45) (lv' := [(6, .int r9), (0, .ref 75), (1, .long w1), (3, .int x3), (4, .int x4), (5, .int x5)]) kc_159_43 rfl rfl (xm_lt ml_159 rfl) ?_
        refine xi_lload_n (pc' := 46) (x := w1) kc_159_45 rfl rfl ?_
        refine xi_aload_n (pc' := 47) (x := 75) kc_159_46 rfl rfl ?_
        refine xp_75 K12.1 (fun u13 bu13 A14 => ?_)
        refine xi_getfield (pc' := 50) (v := .ref 76) kc_159_47 rfl rfl rfl A14 rfl ?_
        refine xi_iload (pc' := 52) (x := x5) kc_159_50 rfl rfl ?_
        obtain ⟨y15, A15, hy15⟩ := xk_larr K12.1 xD_76
        refine xcps2 (α := Int64) (y15.getD (Int32.toNatClampNeg x5) 0) (fun v16 ev16 => ?_)
        refine xi_laload (pc' := 53) (v := v16) kc_159_52 rfl A15 rfl (xi_in (by omega) (by rw [hy15]; omega)) ev16 ?_
        refine xi_ldc2_w (pc' := 56) (v := (-1)) kc_159_53 rfl rfl ?_
        refine xcps2 (α := Int64) ((v16 : Int64) ^^^ (-1)) (fun v17 ev17 => ?_)
        refine xi_lxor (pc' := 57) (v := v17) kc_159_56 rfl ev17 ?_
        refine xcps2 (α := Int64) ((w1 : Int64) &&& v17) (fun v18 ev18 => ?_)
        refine xi_land (pc' := 58) (v := v18) kc_159_57 rfl ev18 ?_
        refine xi_static (mj := 5) (as := [.long v18]) (st1 := []) (lv0 := [(0, .long v18)]) kc_159_58 rfl rfl (Nat.le_of_ble_eq_true rfl) rfl rfl (Nat.le_of_ble_eq_true rfl) (hJ _ _ _ _ (by decide)) (xm_le ml_5 rfl) rfl ?_
        refine mt_5_0 hJ hov1 hov2 (d := d) (w0 := v18) K12.1 (fun r19 hh20 K21 => ?_)
        have br19 := xc_rng r19
        have K22 := xk_tr K12 K21 rfl
        show xw J ov (d + 2) 159 (61, [(6, .int r9), (0, .ref 75), (1, .long w1), (3, .int x3), (4, .int x4), (5, .int x5)], [.int r19], hh20) _
        refine xi_istore (pc' := 63) (lv' := [(7, .int r19), (6, .int r9), (0, .ref 75), (1, .long w1), (3, .int x3), (4, .int x4), (5, .int x5)]) kc_159_61 rfl rfl (xm_lt ml_159 rfl) ?_
        refine xi_aload_n (pc' := 64) (x := 75) kc_159_63 rfl rfl ?_
        refine xp_75 K22.1 (fun u23 bu23 A24 => ?_)
        refine xi_getfield (pc' := 67) (v := .ref 77) kc_159_64 rfl rfl rfl A24 rfl ?_
        refine xi_iload (pc' := 69) (x := x5) kc_159_67 rfl rfl ?_
        refine xcps4 (xk_arr K22.1 xD_77) (fun y25 A25 hy25 ry25 => ?_)
        refine xcps4 (xj_get hy25 ry25 (i := x5) (by omega) (by omega)) (fun v26 ev26 bv26 dv26 => ?_)
        refine xi_iaload (pc' := 70) (v := v26) kc_159_69 rfl A25 (by decide) rfl (xi_in (by omega) (by rw [hy25]; omega)) ev26 ?_
        refine xi_iload (pc' := 72) (x := r9) kc_159_70 rfl rfl ?_
        refine xi_iload (pc' := 74) (x := r19) kc_159_72 rfl rfl ?_
        refine xi_static (mj := 6) (as := [.int r9, .int r19]) (st1 := [.int v26]) (lv0 := [(0, .int r9), (1, .int r19)]) kc_159_74 rfl rfl (Nat.le_of_ble_eq_true rfl) rfl rfl (Nat.le_of_ble_eq_true rfl) (hJ _ _ _ _ (by decide)) (xm_le ml_6 rfl) rfl ?_
        refine mt_6_0 hJ hov1 hov2 (d := d) (x0 := r9) (x1 := r19) K22.1 (fun r27 hh28 K29 => ?_)
        have br27 := xc_rng r27
        have K30 := xk_tr K22 K29 rfl
        show xw J ov (d + 2) 159 (77, [(7, .int r19), (6, .int r9), (0, .ref 75), (1, .long w1), (3, .int x3), (4, .int x4), (5, .int x5)], [.int r27, .int v26], hh28) _
        refine xcps2 (α := Int32) ((v26 : Int32) * r27) (fun v31 ev31 => ?_)
        have rv31 := xc_rng v31
        refine xi_imul (pc' := 78) (v := v31) kc_159_77 rfl ev31 ?_
        refine xi_istore (pc' := 80) (lv' := [(8, .int v31), (7, .int r19), (6, .int r9), (0, .ref 75), (1, .long w1), (3, .int x3), (4, .int x4), (5, .int x5)]) kc_159_78 rfl rfl (xm_lt ml_159 rfl) ?_
        refine xi_aload_n (pc' := 81) (x := 75) kc_159_80 rfl rfl ?_
        refine xp_75 K30.1 (fun u32 bu32 A33 => ?_)
        refine xi_getfield (pc' := 84) (v := .ref 79) kc_159_81 rfl rfl rfl A33 rfl ?_
        refine xi_iload (pc' := 86) (x := x5) kc_159_84 rfl rfl ?_
        refine xcps4 (xk_arr K30.1 xD_79) (fun y34 A34 hy34 ry34 => ?_)
        refine xcps4 (xj_get hy34 ry34 (i := x5) (by omega) (by omega)) (fun v35 ev35 bv35 dv35 => ?_)
        refine xi_iaload (pc' := 87) (v := v35) kc_159_86 rfl A34 (by decide) rfl (xi_in (by omega) (by rw [hy34]; omega)) ev35 ?_
        by_cases c36 : v35.toInt = 0
        · refine xi_iff (pc' := 90) kc_159_87 rfl (xc_ne_f (X := v35.toInt) (Y := 0) rfl (by decide) (by omega)) ?_
          refine xi_iload_n (pc' := 91) (x := x3) kc_159_90 rfl rfl ?_
          refine xi_bipush (pc' := 93) (v := (-9)) kc_159_91 rfl rfl ?_
          by_cases c37 : x3.toInt = (-9)
          · refine xi_cmt (pc' := 103) kc_159_93 rfl (xc_eq_t (X := x3.toInt) (Y := (-9)) rfl (by decide) (by omega)) ?_
            refine xi_iload (pc' := 105) (x := x5) kc_159_103 rfl rfl ?_
            refine xi_istore_n (pc' := 106) (lv' := [(3, .int x5), (8, .int v31), (7, .int r19), (6, .int r9), (0, .ref 75), (1, .long w1), (4, .int x4), (5, .int x5)]) kc_159_105 rfl rfl (xm_lt ml_159 rfl) ?_
            refine xi_iload (pc' := 108) (x := v31) kc_159_106 rfl rfl ?_
            refine xi_istore (pc' := 110) (lv' := [(4, .int v31), (3, .int x5), (8, .int v31), (7, .int r19), (6, .int r9), (0, .ref 75), (1, .long w1), (5, .int x5)]) kc_159_108 rfl rfl (xm_lt ml_159 rfl) ?_
            refine xcps2 (α := Int32) (x5 + 1) (fun v38 ev38 => ?_)
            have zv38 : v38.toInt = (x5.toInt + 1) := by rw [← ev38]; exact (xz_add (X := x5.toInt) (Y := 1) rfl (by decide) (by omega) (by omega)).trans (by omega)
            refine xi_iinc (pc' := 113) (x := x5) (v := v38) (lv' := [(5, .int v38), (4, .int v31), (3, .int x5), (8, .int v31), (7, .int r19), (6, .int r9), (0, .ref 75), (1, .long w1)]) kc_159_110 rfl rfl ev38 rfl (xm_lt ml_159 rfl) ?_
            refine xi_goto (pc' := 9) kc_159_113 rfl ?_
            refine xw_lv (b := [(0, .ref 75), (1, .long w1), (3, .int x5), (4, .int v31), (5, .int v38)]) (lvS_cons (lvS_cons (lvS_cons (lvS_cons (lvS_cons (lvS_nil (show ([5, 4, 3, 8, 7, 6, 0, 1] : List Nat).Nodup by decide)) rfl) rfl) rfl) rfl) rfl) ?_
            exact i0 w1 x5 v31 v38 hh28 (by omega) (by omega) K30 (by omega)
          · refine xi_cmf (pc' := 96) kc_159_93 rfl (xc_eq_f (X := x3.toInt) (Y := (-9)) rfl (by decide) (by omega)) ?_
            refine xi_iload (pc' := 98) (x := v31) kc_159_96 rfl rfl ?_
            refine xi_iload (pc' := 100) (x := x4) kc_159_98 rfl rfl ?_
            by_cases c39 : x4.toInt ≤ v31.toInt
            · refine xi_cmt (pc' := 110) kc_159_100 rfl (xc_ge_t (X := v31.toInt) (Y := x4.toInt) rfl rfl (by omega)) ?_
              refine xcps2 (α := Int32) (x5 + 1) (fun v40 ev40 => ?_)
              have zv40 : v40.toInt = (x5.toInt + 1) := by rw [← ev40]; exact (xz_add (X := x5.toInt) (Y := 1) rfl (by decide) (by omega) (by omega)).trans (by omega)
              refine xi_iinc (pc' := 113) (x := x5) (v := v40) (lv' := [(5, .int v40), (8, .int v31), (7, .int r19), (6, .int r9), (0, .ref 75), (1, .long w1), (3, .int x3), (4, .int x4)]) kc_159_110 rfl rfl ev40 rfl (xm_lt ml_159 rfl) ?_
              refine xi_goto (pc' := 9) kc_159_113 rfl ?_
              refine xw_lv (b := [(0, .ref 75), (1, .long w1), (3, .int x3), (4, .int x4), (5, .int v40)]) (lvS_cons (lvS_cons (lvS_cons (lvS_cons (lvS_cons (lvS_nil (show ([5, 8, 7, 6, 0, 1, 3, 4] : List Nat).Nodup by decide)) rfl) rfl) rfl) rfl) rfl) ?_
              exact i0 w1 x3 x4 v40 hh28 (by omega) (by omega) K30 (by omega)
            · refine xi_cmf (pc' := 103) kc_159_100 rfl (xc_ge_f (X := v31.toInt) (Y := x4.toInt) rfl rfl (by omega)) ?_
              refine xi_iload (pc' := 105) (x := x5) kc_159_103 rfl rfl ?_
              refine xi_istore_n (pc' := 106) (lv' := [(3, .int x5), (8, .int v31), (7, .int r19), (6, .int r9), (0, .ref 75), (1, .long w1), (4, .int x4), (5, .int x5)]) kc_159_105 rfl rfl (xm_lt ml_159 rfl) ?_
              refine xi_iload (pc' := 108) (x := v31) kc_159_106 rfl rfl ?_
              refine xi_istore (pc' := 110) (lv' := [(4, .int v31), (3, .int x5), (8, .int v31), (7, .int r19), (6, .int r9), (0, .ref 75), (1, .long w1), (5, .int x5)]) kc_159_108 rfl rfl (xm_lt ml_159 rfl) ?_
              refine xcps2 (α := Int32) (x5 + 1) (fun v41 ev41 => ?_)
              have zv41 : v41.toInt = (x5.toInt + 1) := by rw [← ev41]; exact (xz_add (X := x5.toInt) (Y := 1) rfl (by decide) (by omega) (by omega)).trans (by omega)
              refine xi_iinc (pc' := 113) (x := x5) (v := v41) (lv' := [(5, .int v41), (4, .int v31), (3, .int x5), (8, .int v31), (7, .int r19), (6, .int r9), (0, .ref 75), (1, .long w1)]) kc_159_110 rfl rfl ev41 rfl (xm_lt ml_159 rfl) ?_
              refine xi_goto (pc' := 9) kc_159_113 rfl ?_
              refine xw_lv (b := [(0, .ref 75), (1, .long w1), (3, .int x5), (4, .int v31), (5, .int v41)]) (lvS_cons (lvS_cons (lvS_cons (lvS_cons (lvS_cons (lvS_nil (show ([5, 4, 3, 8, 7, 6, 0, 1] : List Nat).Nodup by decide)) rfl) rfl) rfl) rfl) rfl) ?_
              exact i0 w1 x5 v31 v41 hh28 (by omega) (by omega) K30 (by omega)
        · refine xi_ift (pc' := 110) kc_159_87 rfl (xc_ne_t (X := v35.toInt) (Y := 0) rfl (by decide) (by omega)) ?_
          refine xcps2 (α := Int32) (x5 + 1) (fun v42 ev42 => ?_)
          have zv42 : v42.toInt = (x5.toInt + 1) := by rw [← ev42]; exact (xz_add (X := x5.toInt) (Y := 1) rfl (by decide) (by omega) (by omega)).trans (by omega)
          refine xi_iinc (pc' := 113) (x := x5) (v := v42) (lv' := [(5, .int v42), (8, .int v31), (7, .int r19), (6, .int r9), (0, .ref 75), (1, .long w1), (3, .int x3), (4, .int x4)]) kc_159_110 rfl rfl ev42 rfl (xm_lt ml_159 rfl) ?_
          refine xi_goto (pc' := 9) kc_159_113 rfl ?_
          refine xw_lv (b := [(0, .ref 75), (1, .long w1), (3, .int x3), (4, .int x4), (5, .int v42)]) (lvS_cons (lvS_cons (lvS_cons (lvS_cons (lvS_cons (lvS_nil (show ([5, 8, 7, 6, 0, 1, 3, 4] : List Nat).Nodup by decide)) rfl) rfl) rfl) rfl) rfl) ?_
          exact i0 w1 x3 x4 v42 hh28 (by omega) (by omega) K30 (by omega)
set_option maxHeartbeats 4000000 in
theorem mt_159_0 {J : xe_J} {ov : List (List Int32)} (hJ : ∀ d mj as h, mj ≠ xe_loff → J d mj as h = none) (hov1 : ov[1]? = some [10, 0, 0, 0, 0, 0]) (hov2 : ov[2]? = some [99, 30, 50, 50, 1, 99999]) {d : Nat} {Q : Option Value → xe_H → Prop} {h : xe_H} {w1 : Int64} (T : xt h) (kk : (∀ (r : Int32) (h' : xe_H), ((-9) ≤ r.toInt ∧ r.toInt ≤ 7) → xk [(0, 9), (115, 1), (83, 0), (29, 0), (31, 0), (33, 0), (35, 0), (37, 0), (39, 0), (41, 0), (43, 0), (45, 0), (47, 0), (49, 0), (51, 0), (125, 0), (66, 8), (115, 18), (71, 0), (132, 0)] h h' → Q (some (.int r)) h')) : xw J ov (d + 2) 159 (0, [(0, .ref 75), (1, .long w1)], [], h) Q := by
  have K : xk [(0, 9), (115, 1), (83, 0), (29, 0), (31, 0), (33, 0), (35, 0), (37, 0), (39, 0), (41, 0), (43, 0), (45, 0), (47, 0), (49, 0), (51, 0), (125, 0), (66, 8), (115, 18), (71, 0), (132, 0)] h h := xk_re T
  refine xi_bipush (pc' := 2) (v := (-9)) kc_159_0 rfl rfl ?_
  refine xi_istore_n (pc' := 3) (lv' := [(3, .int (-9)), (0, .ref 75), (1, .long w1)]) kc_159_2 rfl rfl (xm_lt ml_159 rfl) ?_
  refine xi_iconst (pc' := 4) (v := 0) kc_159_3 rfl rfl ?_
  refine xi_istore (pc' := 6) (lv' := [(4, .int 0), (3, .int (-9)), (0, .ref 75), (1, .long w1)]) kc_159_4 rfl rfl (xm_lt ml_159 rfl) ?_
  refine xi_iconst (pc' := 7) (v := 0) kc_159_6 rfl rfl ?_
  refine xi_istore (pc' := 9) (lv' := [(5, .int 0), (4, .int 0), (3, .int (-9)), (0, .ref 75), (1, .long w1)]) kc_159_7 rfl rfl (xm_lt ml_159 rfl) ?_
  have zcm9 : ((-9) : Int32).toInt = (-9) := by decide
  have zc0 : (0 : Int32).toInt = 0 := by decide
  refine xw_lv (b := [(0, .ref 75), (1, .long w1), (3, .int (-9)), (4, .int 0), (5, .int 0)]) (lvS_cons (lvS_cons (lvS_cons (lvS_cons (lvS_cons (lvS_nil (show ([5, 4, 3, 0, 1] : List Nat).Nodup by decide)) rfl) rfl) rfl) rfl) rfl) ?_
  exact (lp_159_0 hJ hov1 hov2 (d := d) (hb := h) (fun r9 h9 b9 K9 => kk r9 h9 b9 (xk_tr K K9 rfl)) 9) w1 (-9) 0 0 h (by omega) (by omega) (xk_re K.1) (by omega)
set_option maxHeartbeats 4000000 in
theorem mt_158_0 {J : xe_J} {ov : List (List Int32)} (hJ : ∀ d mj as h, mj ≠ xe_loff → J d mj as h = none) (hov1 : ov[1]? = some [10, 0, 0, 0, 0, 0]) (hov2 : ov[2]? = some [99, 30, 50, 50, 1, 99999]) {d : Nat} {Q : Option Value → xe_H → Prop} {h : xe_H} (T : xt h) (kk : (∀ (r : Int32) (h' : xe_H), ((-9) ≤ r.toInt ∧ r.toInt ≤ 7) → xk [(0, 9), (115, 1), (83, 0), (29, 0), (31, 0), (33, 0), (35, 0), (37, 0), (39, 0), (41, 0), (43, 0), (45, 0), (47, 0), (49, 0), (51, 0), (125, 0), (66, 8), (115, 18), (71, 0), (132, 0)] h h' → Q (some (.int r)) h')) : xw J ov (d + 8) 158 (0, [(0, .ref 0)], [], h) Q := by
  have K : xk [(0, 9), (115, 1), (83, 0), (29, 0), (31, 0), (33, 0), (35, 0), (37, 0), (39, 0), (41, 0), (43, 0), (45, 0), (47, 0), (49, 0), (51, 0), (125, 0), (66, 8), (115, 18), (71, 0), (132, 0)] h h := xk_re T
  refine xi_aload_n (pc' := 1) (x := 0) kc_158_0 rfl rfl ?_
  refine xp_0 K.1 (fun u1 u2 bu1 bu2 A3 => ?_)
  refine xi_getfield (pc' := 4) (v := .ref 75) kc_158_1 rfl rfl rfl A3 rfl ?_
  refine xi_aload_n (pc' := 5) (x := 0) kc_158_4 rfl rfl ?_
  refine xi_virtual (mj := 152) (as := []) (st1 := [.ref 75]) (lv0 := [(0, .ref 0)]) kc_158_5 rfl rfl rfl rfl rfl A3 (Nat.le_of_ble_eq_true rfl) (hJ _ _ _ _ (by decide)) (xm_le ml_152 rfl) rfl ?_
  refine mt_152_0 hJ hov1 hov2 (d := d)  K.1 (fun r4 hh5 K6 => ?_)
  have K7 := xk_tr K K6 rfl
  refine xp_0 K7.1 (fun u8 u9 bu8 bu9 A10 => ?_)
  have e11 : u2 = u9 := xk_eqi (q := 9) K6 rfl A3 A10 rfl rfl
  subst e11
  show xw J ov (d + 8) 158 (8, [(0, .ref 0)], [.long r4, .ref 75], hh5) _
  refine xp_75 K7.1 (fun u12 bu12 A13 => ?_)
  refine xi_virtual (mj := 159) (as := [.long r4]) (st1 := []) (lv0 := [(0, .ref 75), (1, .long r4)]) kc_158_8 rfl rfl rfl rfl rfl A13 (Nat.le_of_ble_eq_true rfl) (hJ _ _ _ _ (by decide)) (xm_le ml_159 rfl) rfl ?_
  refine mt_159_0 hJ hov1 hov2 (d := d + 5) (w1 := r4) K7.1 (fun r14 hh15 br14 K16 => ?_)
  have K17 := xk_tr K7 K16 rfl
  refine xp_0 K17.1 (fun u18 u19 bu18 bu19 A20 => ?_)
  have e21 : u2 = u19 := xk_eqi (q := 9) K16 rfl A10 A20 rfl rfl
  subst e21
  show xw J ov (d + 8) 158 (11, [(0, .ref 0)], [.int r14], hh15) _
  refine xi_ireturn kc_158_11 mr_158 rfl ?_
  exact kk r14 hh15 (by omega) K17
set_option maxHeartbeats 4000000 in
theorem mt_16_0 {J : xe_J} {ov : List (List Int32)} (hJ : ∀ d mj as h, mj ≠ xe_loff → J d mj as h = none) (hov1 : ov[1]? = some [10, 0, 0, 0, 0, 0]) (hov2 : ov[2]? = some [99, 30, 50, 50, 1, 99999]) {d : Nat} {Q : Option Value → xe_H → Prop} {h : xe_H} {x1 : Int32} {x2 : Int32} {x3 : Int32} (T : xt h) (kk : (∀ (r : Int32) (h' : xe_H), xk [(0, 9), (115, 1), (83, 0), (29, 0), (31, 0), (33, 0), (35, 0), (37, 0), (39, 0), (41, 0), (43, 0), (45, 0), (47, 0), (49, 0), (51, 0), (125, 0), (66, 8), (115, 18), (71, 0), (132, 0)] h h' → Q (some (.int r)) h')) : xw J ov (d + 1) 16 (0, [(0, .ref 115), (1, .int x1), (2, .int x2), (3, .int x3)], [], h) Q := by
  have K : xk [(0, 9), (115, 1), (83, 0), (29, 0), (31, 0), (33, 0), (35, 0), (37, 0), (39, 0), (41, 0), (43, 0), (45, 0), (47, 0), (49, 0), (51, 0), (125, 0), (66, 8), (115, 18), (71, 0), (132, 0)] h h := xk_re T
  have rx1 := xc_rng x1
  have rx2 := xc_rng x2
  have rx3 := xc_rng x3
  refine xi_aload_n (pc' := 1) (x := 115) kc_16_0 rfl rfl ?_
  refine xi_iconst (pc' := 2) (v := 0) kc_16_1 rfl rfl ?_
  refine xp_115 K.1 (fun u1 u2 u3 u4 u5 u6 u7 u8 u9 u10 u11 u12 u13 bu1 bu2 bu3 bu4 bu5 bu6 bu7 bu8 bu9 bu10 bu11 bu12 bu13 A14 => ?_)
  refine xi_putfield (pc' := 5) (fs' := [.int 0, .int u2, .ref 116, .ref 117, .ref 118, .ref 119, .ref 120, .ref 121, .ref 122, .ref 123, .ref 124, .ref 125, .ref 126, .ref 127, .ref 128, .ref 129, .int u3, .ref 130, .int u4, .ref 131, .ref 132, .ref 133, .ref 134, .int u5, .ref 135, .ref 136, .ref 137, .ref 138, .ref 139, .ref 140, .ref 141, .ref 142, .int u6, .int u7, .int u8, .ref 143, .ref 144, .ref 145, .ref 146, .ref 147, .ref 148, .int u9, .ref 149, .ref 150, .ref 151, .int u10, .ref 152, .ref 153, .ref 154, .ref 155, .ref 156, .ref 157, .ref 158, .ref 159, .int u11, .ref 160, .int u12, .ref 161, .ref 162, .ref 163, .ref 164, .int u13, .ref 165, .ref 166]) kc_16_2 rfl rfl rfl A14 rfl rfl rfl (Nat.le_of_ble_eq_true rfl) rfl (fun hh16 eh15 => ?_)
  have K17 := xk_pf (k := 0) (v := 0) K (xk_wf rfl) xD_115 A14 rfl (by first | omega | decide) (by first | omega | decide) eh15 rfl
  refine xi_iload_n (pc' := 6) (x := x2) kc_16_5 rfl rfl ?_
  refine xi_iconst (pc' := 7) (v := 0) kc_16_6 rfl rfl ?_
  refine xi_iconst (pc' := 8) (v := 1) kc_16_7 rfl rfl ?_
  refine xi_static (mj := 11) (as := [.int x2, .int 0, .int 1]) (st1 := []) (lv0 := [(0, .int x2), (1, .int 0), (2, .int 1)]) kc_16_8 rfl rfl (Nat.le_of_ble_eq_true rfl) rfl rfl (Nat.le_of_ble_eq_true rfl) (hJ _ _ _ _ (by decide)) (xm_le ml_11 rfl) rfl ?_
  refine xi_iload_n (pc' := 1) (x := x2) kc_11_0 rfl rfl ?_
  refine xi_iload_n (pc' := 2) (x := 0) kc_11_1 rfl rfl ?_
  by_cases c18 : x2.toInt < 0
  · refine xi_cmt (pc' := 14) kc_11_2 rfl (xc_lt_t (X := x2.toInt) (Y := 0) rfl (by decide) (by omega)) ?_
    refine xi_iconst (pc' := 15) (v := 0) kc_11_14 rfl rfl ?_
    refine xi_ireturn kc_11_15 mr_11 rfl ?_
    show xw J ov (d + 1) 16 (11, [(0, .ref 115), (1, .int x1), (2, .int x2), (3, .int x3)], [.int 0], hh16) _
    refine xi_iff (pc' := 14) kc_16_11 rfl rfl ?_
    refine xi_aload_n (pc' := 15) (x := 115) kc_16_14 rfl rfl ?_
    refine xi_bipush (pc' := 17) (v := (-2)) kc_16_15 rfl rfl ?_
    refine xi_virtual (mj := 17) (as := [.int (-2)]) (st1 := []) (lv0 := [(0, .ref 115), (1, .int (-2))]) kc_16_17 rfl rfl rfl rfl rfl eh15.1 (Nat.le_of_ble_eq_true rfl) (hJ _ _ _ _ (by decide)) (xm_le ml_17 rfl) rfl ?_
    refine xi_aload_n (pc' := 1) (x := 115) kc_17_0 rfl rfl ?_
    refine xi_getfield (pc' := 4) (v := .ref 140) kc_17_1 rfl rfl rfl eh15.1 rfl ?_
    refine xi_iload_n (pc' := 5) (x := (-2)) kc_17_4 rfl rfl ?_
    refine xi_ineg (pc' := 6) (v := 2) kc_17_5 rfl rfl ?_
    refine xi_dup2 (pc' := 7) kc_17_6 rfl ⟨rfl, rfl⟩ ?_
    refine xcps4 (xk_arr K17.1 xD_140) (fun y19 A19 hy19 ry19 => ?_)
    refine xcps4 (xj_get hy19 ry19 (i := 2) (by decide) (by decide)) (fun v20 ev20 bv20 dv20 => ?_)
    refine xi_iaload (pc' := 8) (v := v20) kc_17_7 rfl A19 (by decide) rfl (xi_in (by decide) (by rw [hy19]; decide)) ev20 ?_
    refine xi_iconst (pc' := 9) (v := 1) kc_17_8 rfl rfl ?_
    refine xcps2 (α := Int32) ((v20 : Int32) + 1) (fun v21 ev21 => ?_)
    have rv21 := xc_rng v21
    refine xi_iadd (pc' := 10) (v := v21) kc_17_9 rfl ev21 ?_
    refine xcps4 (xj_set (v := v21) hy19 ry19 2 (by first | omega | decide) (by first | omega | decide)) (fun y22 s22 hy22 ry22 => ?_)
    refine xi_iastore (pc' := 11) (x' := y22) kc_17_10 rfl A19 rfl (xi_in (by decide) (by rw [hy19]; decide)) s22 (fun hh22 eh22 => ?_)
    have K23 := xk_pa K17 (xk_wa rfl) xD_140 hy22 ry22 eh22
    refine xi_ldc (pc' := 13) (v := 1000000000) kc_17_11 rfl rfl ?_
    refine xi_iload_n (pc' := 14) (x := (-2)) kc_17_13 rfl rfl ?_
    refine xi_isub (pc' := 15) (v := 1000000002) kc_17_14 rfl rfl ?_
    refine xi_ireturn kc_17_15 mr_17 rfl ?_
    show xw J ov (d + 1) 16 (20, [(0, .ref 115), (1, .int x1), (2, .int x2), (3, .int x3)], [.int 1000000002], hh22) _
    refine xi_ireturn kc_16_20 mr_16 rfl ?_
    have zc1000000002 : (1000000002 : Int32).toInt = 1000000002 := by decide
    exact kk 1000000002 hh22 K23
  · refine xi_cmf (pc' := 5) kc_11_2 rfl (xc_lt_f (X := x2.toInt) (Y := 0) rfl (by decide) (by omega)) ?_
    refine xi_iload_n (pc' := 6) (x := x2) kc_11_5 rfl rfl ?_
    refine xi_iload_n (pc' := 7) (x := 1) kc_11_6 rfl rfl ?_
    by_cases c24 : 1 < x2.toInt
    · refine xi_cmt (pc' := 14) kc_11_7 rfl (xc_gt_t (X := x2.toInt) (Y := 1) rfl (by decide) (by omega)) ?_
      refine xi_iconst (pc' := 15) (v := 0) kc_11_14 rfl rfl ?_
      refine xi_ireturn kc_11_15 mr_11 rfl ?_
      show xw J ov (d + 1) 16 (11, [(0, .ref 115), (1, .int x1), (2, .int x2), (3, .int x3)], [.int 0], hh16) _
      refine xi_iff (pc' := 14) kc_16_11 rfl rfl ?_
      refine xi_aload_n (pc' := 15) (x := 115) kc_16_14 rfl rfl ?_
      refine xi_bipush (pc' := 17) (v := (-2)) kc_16_15 rfl rfl ?_
      refine xi_virtual (mj := 17) (as := [.int (-2)]) (st1 := []) (lv0 := [(0, .ref 115), (1, .int (-2))]) kc_16_17 rfl rfl rfl rfl rfl eh15.1 (Nat.le_of_ble_eq_true rfl) (hJ _ _ _ _ (by decide)) (xm_le ml_17 rfl) rfl ?_
      refine xi_aload_n (pc' := 1) (x := 115) kc_17_0 rfl rfl ?_
      refine xi_getfield (pc' := 4) (v := .ref 140) kc_17_1 rfl rfl rfl eh15.1 rfl ?_
      refine xi_iload_n (pc' := 5) (x := (-2)) kc_17_4 rfl rfl ?_
      refine xi_ineg (pc' := 6) (v := 2) kc_17_5 rfl rfl ?_
      refine xi_dup2 (pc' := 7) kc_17_6 rfl ⟨rfl, rfl⟩ ?_
      refine xcps4 (xk_arr K17.1 xD_140) (fun y25 A25 hy25 ry25 => ?_)
      refine xcps4 (xj_get hy25 ry25 (i := 2) (by decide) (by decide)) (fun v26 ev26 bv26 dv26 => ?_)
      refine xi_iaload (pc' := 8) (v := v26) kc_17_7 rfl A25 (by decide) rfl (xi_in (by decide) (by rw [hy25]; decide)) ev26 ?_
      refine xi_iconst (pc' := 9) (v := 1) kc_17_8 rfl rfl ?_
      refine xcps2 (α := Int32) ((v26 : Int32) + 1) (fun v27 ev27 => ?_)
      have rv27 := xc_rng v27
      refine xi_iadd (pc' := 10) (v := v27) kc_17_9 rfl ev27 ?_
      refine xcps4 (xj_set (v := v27) hy25 ry25 2 (by first | omega | decide) (by first | omega | decide)) (fun y28 s28 hy28 ry28 => ?_)
      refine xi_iastore (pc' := 11) (x' := y28) kc_17_10 rfl A25 rfl (xi_in (by decide) (by rw [hy25]; decide)) s28 (fun hh28 eh28 => ?_)
      have K29 := xk_pa K17 (xk_wa rfl) xD_140 hy28 ry28 eh28
      refine xi_ldc (pc' := 13) (v := 1000000000) kc_17_11 rfl rfl ?_
      refine xi_iload_n (pc' := 14) (x := (-2)) kc_17_13 rfl rfl ?_
      refine xi_isub (pc' := 15) (v := 1000000002) kc_17_14 rfl rfl ?_
      refine xi_ireturn kc_17_15 mr_17 rfl ?_
      show xw J ov (d + 1) 16 (20, [(0, .ref 115), (1, .int x1), (2, .int x2), (3, .int x3)], [.int 1000000002], hh28) _
      refine xi_ireturn kc_16_20 mr_16 rfl ?_
      have zc1000000002 : (1000000002 : Int32).toInt = 1000000002 := by decide
      exact kk 1000000002 hh28 K29
    · refine xi_cmf (pc' := 10) kc_11_7 rfl (xc_gt_f (X := x2.toInt) (Y := 1) rfl (by decide) (by omega)) ?_
      refine xi_iconst (pc' := 11) (v := 1) kc_11_10 rfl rfl ?_
      refine xi_goto (pc' := 15) kc_11_11 rfl ?_
      refine xi_ireturn kc_11_15 mr_11 rfl ?_
      show xw J ov (d + 1) 16 (11, [(0, .ref 115), (1, .int x1), (2, .int x2), (3, .int x3)], [.int 1], hh16) _
      refine xi_ift (pc' := 21) kc_16_11 rfl rfl ?_
      refine xi_iload_n (pc' := 22) (x := x1) kc_16_21 rfl rfl ?_
      by_cases c30 : x1.toInt < 0
      · refine xi_ift (pc' := 39) kc_16_22 rfl (xc_lt_t (X := x1.toInt) (Y := 0) rfl (by decide) (by omega)) ?_
        refine xi_aload_n (pc' := 40) (x := 115) kc_16_39 rfl rfl ?_
        refine xi_bipush (pc' := 42) (v := (-4)) kc_16_40 rfl rfl ?_
        refine xi_virtual (mj := 17) (as := [.int (-4)]) (st1 := []) (lv0 := [(0, .ref 115), (1, .int (-4))]) kc_16_42 rfl rfl rfl rfl rfl eh15.1 (Nat.le_of_ble_eq_true rfl) (hJ _ _ _ _ (by decide)) (xm_le ml_17 rfl) rfl ?_
        refine xi_aload_n (pc' := 1) (x := 115) kc_17_0 rfl rfl ?_
        refine xi_getfield (pc' := 4) (v := .ref 140) kc_17_1 rfl rfl rfl eh15.1 rfl ?_
        refine xi_iload_n (pc' := 5) (x := (-4)) kc_17_4 rfl rfl ?_
        refine xi_ineg (pc' := 6) (v := 4) kc_17_5 rfl rfl ?_
        refine xi_dup2 (pc' := 7) kc_17_6 rfl ⟨rfl, rfl⟩ ?_
        refine xcps4 (xk_arr K17.1 xD_140) (fun y31 A31 hy31 ry31 => ?_)
        refine xcps4 (xj_get hy31 ry31 (i := 4) (by decide) (by decide)) (fun v32 ev32 bv32 dv32 => ?_)
        refine xi_iaload (pc' := 8) (v := v32) kc_17_7 rfl A31 (by decide) rfl (xi_in (by decide) (by rw [hy31]; decide)) ev32 ?_
        refine xi_iconst (pc' := 9) (v := 1) kc_17_8 rfl rfl ?_
        refine xcps2 (α := Int32) ((v32 : Int32) + 1) (fun v33 ev33 => ?_)
        have rv33 := xc_rng v33
        refine xi_iadd (pc' := 10) (v := v33) kc_17_9 rfl ev33 ?_
        refine xcps4 (xj_set (v := v33) hy31 ry31 4 (by first | omega | decide) (by first | omega | decide)) (fun y34 s34 hy34 ry34 => ?_)
        refine xi_iastore (pc' := 11) (x' := y34) kc_17_10 rfl A31 rfl (xi_in (by decide) (by rw [hy31]; decide)) s34 (fun hh34 eh34 => ?_)
        have K35 := xk_pa K17 (xk_wa rfl) xD_140 hy34 ry34 eh34
        refine xi_ldc (pc' := 13) (v := 1000000000) kc_17_11 rfl rfl ?_
        refine xi_iload_n (pc' := 14) (x := (-4)) kc_17_13 rfl rfl ?_
        refine xi_isub (pc' := 15) (v := 1000000004) kc_17_14 rfl rfl ?_
        refine xi_ireturn kc_17_15 mr_17 rfl ?_
        show xw J ov (d + 1) 16 (45, [(0, .ref 115), (1, .int x1), (2, .int x2), (3, .int x3)], [.int 1000000004], hh34) _
        refine xi_ireturn kc_16_45 mr_16 rfl ?_
        have zc1000000004 : (1000000004 : Int32).toInt = 1000000004 := by decide
        exact kk 1000000004 hh34 K35
      · refine xi_iff (pc' := 25) kc_16_22 rfl (xc_lt_f (X := x1.toInt) (Y := 0) rfl (by decide) (by omega)) ?_
        refine xi_iload_n (pc' := 26) (x := x3) kc_16_25 rfl rfl ?_
        refine xi_iload_n (pc' := 27) (x := x2) kc_16_26 rfl rfl ?_
        by_cases c36 : x2.toInt = 0
        · refine xi_iff (pc' := 30) kc_16_27 rfl (xc_ne_f (X := x2.toInt) (Y := 0) rfl (by decide) (by omega)) ?_
          refine xi_bipush (pc' := 32) (v := (-20)) kc_16_30 rfl rfl ?_
          refine xi_goto (pc' := 36) kc_16_32 rfl ?_
          by_cases c37 : (-20) ≤ x3.toInt
          · refine xi_cmt (pc' := 46) kc_16_36 rfl (xc_ge_t (X := x3.toInt) (Y := (-20)) rfl (by decide) (by omega)) ?_
            refine xi_iload_n (pc' := 47) (x := x1) kc_16_46 rfl rfl ?_
            refine xi_sipush (pc' := 50) (v := 599) kc_16_47 rfl rfl ?_
            by_cases c38 : 599 < x1.toInt
            · refine xi_cmt (pc' := 74) kc_16_50 rfl (xc_gt_t (X := x1.toInt) (Y := 599) rfl (by decide) (by omega)) ?_
              refine xi_aload_n (pc' := 75) (x := 115) kc_16_74 rfl rfl ?_
              refine xi_bipush (pc' := 77) (v := (-6)) kc_16_75 rfl rfl ?_
              refine xi_virtual (mj := 17) (as := [.int (-6)]) (st1 := []) (lv0 := [(0, .ref 115), (1, .int (-6))]) kc_16_77 rfl rfl rfl rfl rfl eh15.1 (Nat.le_of_ble_eq_true rfl) (hJ _ _ _ _ (by decide)) (xm_le ml_17 rfl) rfl ?_
              refine xi_aload_n (pc' := 1) (x := 115) kc_17_0 rfl rfl ?_
              refine xi_getfield (pc' := 4) (v := .ref 140) kc_17_1 rfl rfl rfl eh15.1 rfl ?_
              refine xi_iload_n (pc' := 5) (x := (-6)) kc_17_4 rfl rfl ?_
              refine xi_ineg (pc' := 6) (v := 6) kc_17_5 rfl rfl ?_
              refine xi_dup2 (pc' := 7) kc_17_6 rfl ⟨rfl, rfl⟩ ?_
              refine xcps4 (xk_arr K17.1 xD_140) (fun y39 A39 hy39 ry39 => ?_)
              refine xcps4 (xj_get hy39 ry39 (i := 6) (by decide) (by decide)) (fun v40 ev40 bv40 dv40 => ?_)
              refine xi_iaload (pc' := 8) (v := v40) kc_17_7 rfl A39 (by decide) rfl (xi_in (by decide) (by rw [hy39]; decide)) ev40 ?_
              refine xi_iconst (pc' := 9) (v := 1) kc_17_8 rfl rfl ?_
              refine xcps2 (α := Int32) ((v40 : Int32) + 1) (fun v41 ev41 => ?_)
              have rv41 := xc_rng v41
              refine xi_iadd (pc' := 10) (v := v41) kc_17_9 rfl ev41 ?_
              refine xcps4 (xj_set (v := v41) hy39 ry39 6 (by first | omega | decide) (by first | omega | decide)) (fun y42 s42 hy42 ry42 => ?_)
              refine xi_iastore (pc' := 11) (x' := y42) kc_17_10 rfl A39 rfl (xi_in (by decide) (by rw [hy39]; decide)) s42 (fun hh42 eh42 => ?_)
              have K43 := xk_pa K17 (xk_wa rfl) xD_140 hy42 ry42 eh42
              refine xi_ldc (pc' := 13) (v := 1000000000) kc_17_11 rfl rfl ?_
              refine xi_iload_n (pc' := 14) (x := (-6)) kc_17_13 rfl rfl ?_
              refine xi_isub (pc' := 15) (v := 1000000006) kc_17_14 rfl rfl ?_
              refine xi_ireturn kc_17_15 mr_17 rfl ?_
              show xw J ov (d + 1) 16 (80, [(0, .ref 115), (1, .int x1), (2, .int x2), (3, .int x3)], [.int 1000000006], hh42) _
              refine xi_ireturn kc_16_80 mr_16 rfl ?_
              have zc1000000006 : (1000000006 : Int32).toInt = 1000000006 := by decide
              exact kk 1000000006 hh42 K43
            · refine xi_cmf (pc' := 53) kc_16_50 rfl (xc_gt_f (X := x1.toInt) (Y := 599) rfl (by decide) (by omega)) ?_
              refine xi_iload_n (pc' := 54) (x := x3) kc_16_53 rfl rfl ?_
              refine xi_iload_n (pc' := 55) (x := x2) kc_16_54 rfl rfl ?_
              refine xi_iff (pc' := 58) kc_16_55 rfl (xc_ne_f (X := x2.toInt) (Y := 0) rfl (by decide) (by omega)) ?_
              refine xi_bipush (pc' := 60) (v := 30) kc_16_58 rfl rfl ?_
              refine xi_goto (pc' := 65) kc_16_60 rfl ?_
              by_cases c44 : x3.toInt ≤ 30
              · refine xi_cmt (pc' := 81) kc_16_65 rfl (xc_le_t (X := x3.toInt) (Y := 30) rfl (by decide) (by omega)) ?_
                refine xi_iload_n (pc' := 82) (x := x2) kc_16_81 rfl rfl ?_
                refine xi_iff (pc' := 85) kc_16_82 rfl (xc_ne_f (X := x2.toInt) (Y := 0) rfl (by decide) (by omega)) ?_
                refine xi_aload_n (pc' := 86) (x := 115) kc_16_85 rfl rfl ?_
                refine xi_getfield (pc' := 89) (v := .ref 123) kc_16_86 rfl rfl rfl eh15.1 rfl ?_
                refine xi_iload_n (pc' := 90) (x := x1) kc_16_89 rfl rfl ?_
                refine xcps4 (xk_arr K17.1 xD_123) (fun y45 A45 hy45 ry45 => ?_)
                refine xcps4 (xj_get hy45 ry45 (i := x1) (by omega) (by omega)) (fun v46 ev46 bv46 dv46 => ?_)
                refine xi_iaload (pc' := 91) (v := v46) kc_16_90 rfl A45 (by decide) rfl (xi_in (by omega) (by rw [hy45]; omega)) ev46 ?_
                refine xi_goto (pc' := 100) kc_16_91 rfl ?_
                refine xi_istore (pc' := 102) (lv' := [(4, .int v46), (0, .ref 115), (1, .int x1), (2, .int x2), (3, .int x3)]) kc_16_100 rfl rfl (xm_lt ml_16 rfl) ?_
                refine xi_aload_n (pc' := 103) (x := 115) kc_16_102 rfl rfl ?_
                refine xi_getfield (pc' := 106) (v := .ref 123) kc_16_103 rfl rfl rfl eh15.1 rfl ?_
                refine xi_iload_n (pc' := 107) (x := x1) kc_16_106 rfl rfl ?_
                refine xi_iload_n (pc' := 108) (x := x2) kc_16_107 rfl rfl ?_
                refine xi_iff (pc' := 111) kc_16_108 rfl (xc_ne_f (X := x2.toInt) (Y := 0) rfl (by decide) (by omega)) ?_
                refine xi_iload_n (pc' := 112) (x := x3) kc_16_111 rfl rfl ?_
                refine xi_goto (pc' := 121) kc_16_112 rfl ?_
                refine xcps4 (xj_set (v := x3) hy45 ry45 x1 (by first | omega | decide) (by first | omega | decide)) (fun y47 s47 hy47 ry47 => ?_)
                refine xi_iastore (pc' := 122) (x' := y47) kc_16_121 rfl A45 rfl (xi_in (by omega) (by rw [hy45]; omega)) s47 (fun hh47 eh47 => ?_)
                have K48 := xk_pa K17 (xk_wa rfl) xD_123 hy47 ry47 eh47
                refine xi_aload_n (pc' := 123) (x := 115) kc_16_122 rfl rfl ?_
                have A49 := ((eh47.2.1 115 (by decide)).trans eh15.1)
                refine xi_getfield (pc' := 126) (v := .ref 124) kc_16_123 rfl rfl rfl A49 rfl ?_
                refine xi_iload_n (pc' := 127) (x := x1) kc_16_126 rfl rfl ?_
                refine xi_iload_n (pc' := 128) (x := x2) kc_16_127 rfl rfl ?_
                refine xi_iconst (pc' := 129) (v := 1) kc_16_128 rfl rfl ?_
                refine xi_cmt (pc' := 136) kc_16_129 rfl (xc_ne_t (X := x2.toInt) (Y := 1) rfl (by decide) (by omega)) ?_
                refine xi_aload_n (pc' := 137) (x := 115) kc_16_136 rfl rfl ?_
                refine xi_getfield (pc' := 140) (v := .ref 124) kc_16_137 rfl rfl rfl A49 rfl ?_
                refine xi_iload_n (pc' := 141) (x := x1) kc_16_140 rfl rfl ?_
                refine xcps4 (xk_arr K48.1 xD_124) (fun y50 A50 hy50 ry50 => ?_)
                refine xcps4 (xj_get hy50 ry50 (i := x1) (by omega) (by omega)) (fun v51 ev51 bv51 dv51 => ?_)
                refine xi_iaload (pc' := 142) (v := v51) kc_16_141 rfl A50 (by decide) rfl (xi_in (by omega) (by rw [hy50]; omega)) ev51 ?_
                refine xcps4 (xj_set (v := v51) hy50 ry50 x1 (by first | omega | decide) (by first | omega | decide)) (fun y52 s52 hy52 ry52 => ?_)
                refine xi_iastore (pc' := 143) (x' := y52) kc_16_142 rfl A50 rfl (xi_in (by omega) (by rw [hy50]; omega)) s52 (fun hh52 eh52 => ?_)
                have K53 := xk_pa K48 (xk_wa rfl) xD_124 hy52 ry52 eh52
                refine xi_aload_n (pc' := 144) (x := 115) kc_16_143 rfl rfl ?_
                refine xi_iconst (pc' := 145) (v := 0) kc_16_144 rfl rfl ?_
                have A54 := ((eh52.2.1 115 (by decide)).trans A49)
                refine xi_putfield (pc' := 148) (fs' := [.int 0, .int u2, .ref 116, .ref 117, .ref 118, .ref 119, .ref 120, .ref 121, .ref 122, .ref 123, .ref 124, .ref 125, .ref 126, .ref 127, .ref 128, .ref 129, .int u3, .ref 130, .int u4, .ref 131, .ref 132, .ref 133, .ref 134, .int u5, .ref 135, .ref 136, .ref 137, .ref 138, .ref 139, .ref 140, .ref 141, .ref 142, .int u6, .int u7, .int u8, .ref 143, .ref 144, .ref 145, .ref 146, .ref 147, .ref 148, .int 0, .ref 149, .ref 150, .ref 151, .int u10, .ref 152, .ref 153, .ref 154, .ref 155, .ref 156, .ref 157, .ref 158, .ref 159, .int u11, .ref 160, .int u12, .ref 161, .ref 162, .ref 163, .ref 164, .int u13, .ref 165, .ref 166]) kc_16_145 rfl rfl rfl A54 rfl rfl rfl (Nat.le_of_ble_eq_true rfl) rfl (fun hh56 eh55 => ?_)
                have K57 := xk_pf (k := 41) (v := 0) K53 (xk_wf rfl) xD_115 A54 rfl (by first | omega | decide) (by first | omega | decide) eh55 rfl
                refine xi_iload (pc' := 150) (x := v46) kc_16_148 rfl rfl ?_
                refine xi_ireturn kc_16_150 mr_16 rfl ?_
                exact kk v46 hh56 K57
              · refine xi_cmf (pc' := 68) kc_16_65 rfl (xc_le_f (X := x3.toInt) (Y := 30) rfl (by decide) (by omega)) ?_
                refine xi_iload_n (pc' := 69) (x := x3) kc_16_68 rfl rfl ?_
                refine xi_bipush (pc' := 71) (v := 99) kc_16_69 rfl rfl ?_
                by_cases c58 : x3.toInt = 99
                · refine xi_cmt (pc' := 81) kc_16_71 rfl (xc_eq_t (X := x3.toInt) (Y := 99) rfl (by decide) (by omega)) ?_
                  refine xi_iload_n (pc' := 82) (x := x2) kc_16_81 rfl rfl ?_
                  refine xi_iff (pc' := 85) kc_16_82 rfl (xc_ne_f (X := x2.toInt) (Y := 0) rfl (by decide) (by omega)) ?_
                  refine xi_aload_n (pc' := 86) (x := 115) kc_16_85 rfl rfl ?_
                  refine xi_getfield (pc' := 89) (v := .ref 123) kc_16_86 rfl rfl rfl eh15.1 rfl ?_
                  refine xi_iload_n (pc' := 90) (x := x1) kc_16_89 rfl rfl ?_
                  refine xcps4 (xk_arr K17.1 xD_123) (fun y59 A59 hy59 ry59 => ?_)
                  refine xcps4 (xj_get hy59 ry59 (i := x1) (by omega) (by omega)) (fun v60 ev60 bv60 dv60 => ?_)
                  refine xi_iaload (pc' := 91) (v := v60) kc_16_90 rfl A59 (by decide) rfl (xi_in (by omega) (by rw [hy59]; omega)) ev60 ?_
                  refine xi_goto (pc' := 100) kc_16_91 rfl ?_
                  refine xi_istore (pc' := 102) (lv' := [(4, .int v60), (0, .ref 115), (1, .int x1), (2, .int x2), (3, .int x3)]) kc_16_100 rfl rfl (xm_lt ml_16 rfl) ?_
                  refine xi_aload_n (pc' := 103) (x := 115) kc_16_102 rfl rfl ?_
                  refine xi_getfield (pc' := 106) (v := .ref 123) kc_16_103 rfl rfl rfl eh15.1 rfl ?_
                  refine xi_iload_n (pc' := 107) (x := x1) kc_16_106 rfl rfl ?_
                  refine xi_iload_n (pc' := 108) (x := x2) kc_16_107 rfl rfl ?_
                  refine xi_iff (pc' := 111) kc_16_108 rfl (xc_ne_f (X := x2.toInt) (Y := 0) rfl (by decide) (by omega)) ?_
                  refine xi_iload_n (pc' := 112) (x := x3) kc_16_111 rfl rfl ?_
                  refine xi_goto (pc' := 121) kc_16_112 rfl ?_
                  refine xcps4 (xj_set (v := x3) hy59 ry59 x1 (by first | omega | decide) (by first | omega | decide)) (fun y61 s61 hy61 ry61 => ?_)
                  refine xi_iastore (pc' := 122) (x' := y61) kc_16_121 rfl A59 rfl (xi_in (by omega) (by rw [hy59]; omega)) s61 (fun hh61 eh61 => ?_)
                  have K62 := xk_pa K17 (xk_wa rfl) xD_123 hy61 ry61 eh61
                  refine xi_aload_n (pc' := 123) (x := 115) kc_16_122 rfl rfl ?_
                  have A63 := ((eh61.2.1 115 (by decide)).trans eh15.1)
                  refine xi_getfield (pc' := 126) (v := .ref 124) kc_16_123 rfl rfl rfl A63 rfl ?_
                  refine xi_iload_n (pc' := 127) (x := x1) kc_16_126 rfl rfl ?_
                  refine xi_iload_n (pc' := 128) (x := x2) kc_16_127 rfl rfl ?_
                  refine xi_iconst (pc' := 129) (v := 1) kc_16_128 rfl rfl ?_
                  refine xi_cmt (pc' := 136) kc_16_129 rfl (xc_ne_t (X := x2.toInt) (Y := 1) rfl (by decide) (by omega)) ?_
                  refine xi_aload_n (pc' := 137) (x := 115) kc_16_136 rfl rfl ?_
                  refine xi_getfield (pc' := 140) (v := .ref 124) kc_16_137 rfl rfl rfl A63 rfl ?_
                  refine xi_iload_n (pc' := 141) (x := x1) kc_16_140 rfl rfl ?_
                  refine xcps4 (xk_arr K62.1 xD_124) (fun y64 A64 hy64 ry64 => ?_)
                  refine xcps4 (xj_get hy64 ry64 (i := x1) (by omega) (by omega)) (fun v65 ev65 bv65 dv65 => ?_)
                  refine xi_iaload (pc' := 142) (v := v65) kc_16_141 rfl A64 (by decide) rfl (xi_in (by omega) (by rw [hy64]; omega)) ev65 ?_
                  refine xcps4 (xj_set (v := v65) hy64 ry64 x1 (by first | omega | decide) (by first | omega | decide)) (fun y66 s66 hy66 ry66 => ?_)
                  refine xi_iastore (pc' := 143) (x' := y66) kc_16_142 rfl A64 rfl (xi_in (by omega) (by rw [hy64]; omega)) s66 (fun hh66 eh66 => ?_)
                  have K67 := xk_pa K62 (xk_wa rfl) xD_124 hy66 ry66 eh66
                  refine xi_aload_n (pc' := 144) (x := 115) kc_16_143 rfl rfl ?_
                  refine xi_iconst (pc' := 145) (v := 0) kc_16_144 rfl rfl ?_
                  have A68 := ((eh66.2.1 115 (by decide)).trans A63)
                  refine xi_putfield (pc' := 148) (fs' := [.int 0, .int u2, .ref 116, .ref 117, .ref 118, .ref 119, .ref 120, .ref 121, .ref 122, .ref 123, .ref 124, .ref 125, .ref 126, .ref 127, .ref 128, .ref 129, .int u3, .ref 130, .int u4, .ref 131, .ref 132, .ref 133, .ref 134, .int u5, .ref 135, .ref 136, .ref 137, .ref 138, .ref 139, .ref 140, .ref 141, .ref 142, .int u6, .int u7, .int u8, .ref 143, .ref 144, .ref 145, .ref 146, .ref 147, .ref 148, .int 0, .ref 149, .ref 150, .ref 151, .int u10, .ref 152, .ref 153, .ref 154, .ref 155, .ref 156, .ref 157, .ref 158, .ref 159, .int u11, .ref 160, .int u12, .ref 161, .ref 162, .ref 163, .ref 164, .int u13, .ref 165, .ref 166]) kc_16_145 rfl rfl rfl A68 rfl rfl rfl (Nat.le_of_ble_eq_true rfl) rfl (fun hh70 eh69 => ?_)
                  have K71 := xk_pf (k := 41) (v := 0) K67 (xk_wf rfl) xD_115 A68 rfl (by first | omega | decide) (by first | omega | decide) eh69 rfl
                  refine xi_iload (pc' := 150) (x := v60) kc_16_148 rfl rfl ?_
                  refine xi_ireturn kc_16_150 mr_16 rfl ?_
                  exact kk v60 hh70 K71
                · refine xi_cmf (pc' := 74) kc_16_71 rfl (xc_eq_f (X := x3.toInt) (Y := 99) rfl (by decide) (by omega)) ?_
                  refine xi_aload_n (pc' := 75) (x := 115) kc_16_74 rfl rfl ?_
                  refine xi_bipush (pc' := 77) (v := (-6)) kc_16_75 rfl rfl ?_
                  refine xi_virtual (mj := 17) (as := [.int (-6)]) (st1 := []) (lv0 := [(0, .ref 115), (1, .int (-6))]) kc_16_77 rfl rfl rfl rfl rfl eh15.1 (Nat.le_of_ble_eq_true rfl) (hJ _ _ _ _ (by decide)) (xm_le ml_17 rfl) rfl ?_
                  refine xi_aload_n (pc' := 1) (x := 115) kc_17_0 rfl rfl ?_
                  refine xi_getfield (pc' := 4) (v := .ref 140) kc_17_1 rfl rfl rfl eh15.1 rfl ?_
                  refine xi_iload_n (pc' := 5) (x := (-6)) kc_17_4 rfl rfl ?_
                  refine xi_ineg (pc' := 6) (v := 6) kc_17_5 rfl rfl ?_
                  refine xi_dup2 (pc' := 7) kc_17_6 rfl ⟨rfl, rfl⟩ ?_
                  refine xcps4 (xk_arr K17.1 xD_140) (fun y72 A72 hy72 ry72 => ?_)
                  refine xcps4 (xj_get hy72 ry72 (i := 6) (by decide) (by decide)) (fun v73 ev73 bv73 dv73 => ?_)
                  refine xi_iaload (pc' := 8) (v := v73) kc_17_7 rfl A72 (by decide) rfl (xi_in (by decide) (by rw [hy72]; decide)) ev73 ?_
                  refine xi_iconst (pc' := 9) (v := 1) kc_17_8 rfl rfl ?_
                  refine xcps2 (α := Int32) ((v73 : Int32) + 1) (fun v74 ev74 => ?_)
                  have rv74 := xc_rng v74
                  refine xi_iadd (pc' := 10) (v := v74) kc_17_9 rfl ev74 ?_
                  refine xcps4 (xj_set (v := v74) hy72 ry72 6 (by first | omega | decide) (by first | omega | decide)) (fun y75 s75 hy75 ry75 => ?_)
                  refine xi_iastore (pc' := 11) (x' := y75) kc_17_10 rfl A72 rfl (xi_in (by decide) (by rw [hy72]; decide)) s75 (fun hh75 eh75 => ?_)
                  have K76 := xk_pa K17 (xk_wa rfl) xD_140 hy75 ry75 eh75
                  refine xi_ldc (pc' := 13) (v := 1000000000) kc_17_11 rfl rfl ?_
                  refine xi_iload_n (pc' := 14) (x := (-6)) kc_17_13 rfl rfl ?_
                  refine xi_isub (pc' := 15) (v := 1000000006) kc_17_14 rfl rfl ?_
                  refine xi_ireturn kc_17_15 mr_17 rfl ?_
                  show xw J ov (d + 1) 16 (80, [(0, .ref 115), (1, .int x1), (2, .int x2), (3, .int x3)], [.int 1000000006], hh75) _
                  refine xi_ireturn kc_16_80 mr_16 rfl ?_
                  have zc1000000006 : (1000000006 : Int32).toInt = 1000000006 := by decide
                  exact kk 1000000006 hh75 K76
          · refine xi_cmf (pc' := 39) kc_16_36 rfl (xc_ge_f (X := x3.toInt) (Y := (-20)) rfl (by decide) (by omega)) ?_
            refine xi_aload_n (pc' := 40) (x := 115) kc_16_39 rfl rfl ?_
            refine xi_bipush (pc' := 42) (v := (-4)) kc_16_40 rfl rfl ?_
            refine xi_virtual (mj := 17) (as := [.int (-4)]) (st1 := []) (lv0 := [(0, .ref 115), (1, .int (-4))]) kc_16_42 rfl rfl rfl rfl rfl eh15.1 (Nat.le_of_ble_eq_true rfl) (hJ _ _ _ _ (by decide)) (xm_le ml_17 rfl) rfl ?_
            refine xi_aload_n (pc' := 1) (x := 115) kc_17_0 rfl rfl ?_
            refine xi_getfield (pc' := 4) (v := .ref 140) kc_17_1 rfl rfl rfl eh15.1 rfl ?_
            refine xi_iload_n (pc' := 5) (x := (-4)) kc_17_4 rfl rfl ?_
            refine xi_ineg (pc' := 6) (v := 4) kc_17_5 rfl rfl ?_
            refine xi_dup2 (pc' := 7) kc_17_6 rfl ⟨rfl, rfl⟩ ?_
            refine xcps4 (xk_arr K17.1 xD_140) (fun y77 A77 hy77 ry77 => ?_)
            refine xcps4 (xj_get hy77 ry77 (i := 4) (by decide) (by decide)) (fun v78 ev78 bv78 dv78 => ?_)
            refine xi_iaload (pc' := 8) (v := v78) kc_17_7 rfl A77 (by decide) rfl (xi_in (by decide) (by rw [hy77]; decide)) ev78 ?_
            refine xi_iconst (pc' := 9) (v := 1) kc_17_8 rfl rfl ?_
            refine xcps2 (α := Int32) ((v78 : Int32) + 1) (fun v79 ev79 => ?_)
            have rv79 := xc_rng v79
            refine xi_iadd (pc' := 10) (v := v79) kc_17_9 rfl ev79 ?_
            refine xcps4 (xj_set (v := v79) hy77 ry77 4 (by first | omega | decide) (by first | omega | decide)) (fun y80 s80 hy80 ry80 => ?_)
            refine xi_iastore (pc' := 11) (x' := y80) kc_17_10 rfl A77 rfl (xi_in (by decide) (by rw [hy77]; decide)) s80 (fun hh80 eh80 => ?_)
            have K81 := xk_pa K17 (xk_wa rfl) xD_140 hy80 ry80 eh80
            refine xi_ldc (pc' := 13) (v := 1000000000) kc_17_11 rfl rfl ?_
            refine xi_iload_n (pc' := 14) (x := (-4)) kc_17_13 rfl rfl ?_
            refine xi_isub (pc' := 15) (v := 1000000004) kc_17_14 rfl rfl ?_
            refine xi_ireturn kc_17_15 mr_17 rfl ?_
            show xw J ov (d + 1) 16 (45, [(0, .ref 115), (1, .int x1), (2, .int x2), (3, .int x3)], [.int 1000000004], hh80) _
            refine xi_ireturn kc_16_45 mr_16 rfl ?_
            have zc1000000004 : (1000000004 : Int32).toInt = 1000000004 := by decide
            exact kk 1000000004 hh80 K81
        · refine xi_ift (pc' := 35) kc_16_27 rfl (xc_ne_t (X := x2.toInt) (Y := 0) rfl (by decide) (by omega)) ?_
          refine xi_iconst (pc' := 36) (v := 0) kc_16_35 rfl rfl ?_
          by_cases c82 : 0 ≤ x3.toInt
          · refine xi_cmt (pc' := 46) kc_16_36 rfl (xc_ge_t (X := x3.toInt) (Y := 0) rfl (by decide) (by omega)) ?_
            refine xi_iload_n (pc' := 47) (x := x1) kc_16_46 rfl rfl ?_
            refine xi_sipush (pc' := 50) (v := 599) kc_16_47 rfl rfl ?_
            by_cases c83 : 599 < x1.toInt
            · refine xi_cmt (pc' := 74) kc_16_50 rfl (xc_gt_t (X := x1.toInt) (Y := 599) rfl (by decide) (by omega)) ?_
              refine xi_aload_n (pc' := 75) (x := 115) kc_16_74 rfl rfl ?_
              refine xi_bipush (pc' := 77) (v := (-6)) kc_16_75 rfl rfl ?_
              refine xi_virtual (mj := 17) (as := [.int (-6)]) (st1 := []) (lv0 := [(0, .ref 115), (1, .int (-6))]) kc_16_77 rfl rfl rfl rfl rfl eh15.1 (Nat.le_of_ble_eq_true rfl) (hJ _ _ _ _ (by decide)) (xm_le ml_17 rfl) rfl ?_
              refine xi_aload_n (pc' := 1) (x := 115) kc_17_0 rfl rfl ?_
              refine xi_getfield (pc' := 4) (v := .ref 140) kc_17_1 rfl rfl rfl eh15.1 rfl ?_
              refine xi_iload_n (pc' := 5) (x := (-6)) kc_17_4 rfl rfl ?_
              refine xi_ineg (pc' := 6) (v := 6) kc_17_5 rfl rfl ?_
              refine xi_dup2 (pc' := 7) kc_17_6 rfl ⟨rfl, rfl⟩ ?_
              refine xcps4 (xk_arr K17.1 xD_140) (fun y84 A84 hy84 ry84 => ?_)
              refine xcps4 (xj_get hy84 ry84 (i := 6) (by decide) (by decide)) (fun v85 ev85 bv85 dv85 => ?_)
              refine xi_iaload (pc' := 8) (v := v85) kc_17_7 rfl A84 (by decide) rfl (xi_in (by decide) (by rw [hy84]; decide)) ev85 ?_
              refine xi_iconst (pc' := 9) (v := 1) kc_17_8 rfl rfl ?_
              refine xcps2 (α := Int32) ((v85 : Int32) + 1) (fun v86 ev86 => ?_)
              have rv86 := xc_rng v86
              refine xi_iadd (pc' := 10) (v := v86) kc_17_9 rfl ev86 ?_
              refine xcps4 (xj_set (v := v86) hy84 ry84 6 (by first | omega | decide) (by first | omega | decide)) (fun y87 s87 hy87 ry87 => ?_)
              refine xi_iastore (pc' := 11) (x' := y87) kc_17_10 rfl A84 rfl (xi_in (by decide) (by rw [hy84]; decide)) s87 (fun hh87 eh87 => ?_)
              have K88 := xk_pa K17 (xk_wa rfl) xD_140 hy87 ry87 eh87
              refine xi_ldc (pc' := 13) (v := 1000000000) kc_17_11 rfl rfl ?_
              refine xi_iload_n (pc' := 14) (x := (-6)) kc_17_13 rfl rfl ?_
              refine xi_isub (pc' := 15) (v := 1000000006) kc_17_14 rfl rfl ?_
              refine xi_ireturn kc_17_15 mr_17 rfl ?_
              show xw J ov (d + 1) 16 (80, [(0, .ref 115), (1, .int x1), (2, .int x2), (3, .int x3)], [.int 1000000006], hh87) _
              refine xi_ireturn kc_16_80 mr_16 rfl ?_
              have zc1000000006 : (1000000006 : Int32).toInt = 1000000006 := by decide
              exact kk 1000000006 hh87 K88
            · refine xi_cmf (pc' := 53) kc_16_50 rfl (xc_gt_f (X := x1.toInt) (Y := 599) rfl (by decide) (by omega)) ?_
              refine xi_iload_n (pc' := 54) (x := x3) kc_16_53 rfl rfl ?_
              refine xi_iload_n (pc' := 55) (x := x2) kc_16_54 rfl rfl ?_
              refine xi_ift (pc' := 63) kc_16_55 rfl (xc_ne_t (X := x2.toInt) (Y := 0) rfl (by decide) (by omega)) ?_
              refine xi_bipush (pc' := 65) (v := 20) kc_16_63 rfl rfl ?_
              by_cases c89 : x3.toInt ≤ 20
              · refine xi_cmt (pc' := 81) kc_16_65 rfl (xc_le_t (X := x3.toInt) (Y := 20) rfl (by decide) (by omega)) ?_
                refine xi_iload_n (pc' := 82) (x := x2) kc_16_81 rfl rfl ?_
                refine xi_ift (pc' := 94) kc_16_82 rfl (xc_ne_t (X := x2.toInt) (Y := 0) rfl (by decide) (by omega)) ?_
                refine xi_aload_n (pc' := 95) (x := 115) kc_16_94 rfl rfl ?_
                refine xi_getfield (pc' := 98) (v := .ref 124) kc_16_95 rfl rfl rfl eh15.1 rfl ?_
                refine xi_iload_n (pc' := 99) (x := x1) kc_16_98 rfl rfl ?_
                refine xcps4 (xk_arr K17.1 xD_124) (fun y90 A90 hy90 ry90 => ?_)
                refine xcps4 (xj_get hy90 ry90 (i := x1) (by omega) (by omega)) (fun v91 ev91 bv91 dv91 => ?_)
                refine xi_iaload (pc' := 100) (v := v91) kc_16_99 rfl A90 (by decide) rfl (xi_in (by omega) (by rw [hy90]; omega)) ev91 ?_
                refine xi_istore (pc' := 102) (lv' := [(4, .int v91), (0, .ref 115), (1, .int x1), (2, .int x2), (3, .int x3)]) kc_16_100 rfl rfl (xm_lt ml_16 rfl) ?_
                refine xi_aload_n (pc' := 103) (x := 115) kc_16_102 rfl rfl ?_
                refine xi_getfield (pc' := 106) (v := .ref 123) kc_16_103 rfl rfl rfl eh15.1 rfl ?_
                refine xi_iload_n (pc' := 107) (x := x1) kc_16_106 rfl rfl ?_
                refine xi_iload_n (pc' := 108) (x := x2) kc_16_107 rfl rfl ?_
                refine xi_ift (pc' := 115) kc_16_108 rfl (xc_ne_t (X := x2.toInt) (Y := 0) rfl (by decide) (by omega)) ?_
                refine xi_aload_n (pc' := 116) (x := 115) kc_16_115 rfl rfl ?_
                refine xi_getfield (pc' := 119) (v := .ref 123) kc_16_116 rfl rfl rfl eh15.1 rfl ?_
                refine xi_iload_n (pc' := 120) (x := x1) kc_16_119 rfl rfl ?_
                refine xcps4 (xk_arr K17.1 xD_123) (fun y92 A92 hy92 ry92 => ?_)
                refine xcps4 (xj_get hy92 ry92 (i := x1) (by omega) (by omega)) (fun v93 ev93 bv93 dv93 => ?_)
                refine xi_iaload (pc' := 121) (v := v93) kc_16_120 rfl A92 (by decide) rfl (xi_in (by omega) (by rw [hy92]; omega)) ev93 ?_
                refine xcps4 (xj_set (v := v93) hy92 ry92 x1 (by first | omega | decide) (by first | omega | decide)) (fun y94 s94 hy94 ry94 => ?_)
                refine xi_iastore (pc' := 122) (x' := y94) kc_16_121 rfl A92 rfl (xi_in (by omega) (by rw [hy92]; omega)) s94 (fun hh94 eh94 => ?_)
                have K95 := xk_pa K17 (xk_wa rfl) xD_123 hy94 ry94 eh94
                refine xi_aload_n (pc' := 123) (x := 115) kc_16_122 rfl rfl ?_
                have A96 := ((eh94.2.1 115 (by decide)).trans eh15.1)
                refine xi_getfield (pc' := 126) (v := .ref 124) kc_16_123 rfl rfl rfl A96 rfl ?_
                refine xi_iload_n (pc' := 127) (x := x1) kc_16_126 rfl rfl ?_
                refine xi_iload_n (pc' := 128) (x := x2) kc_16_127 rfl rfl ?_
                refine xi_iconst (pc' := 129) (v := 1) kc_16_128 rfl rfl ?_
                refine xi_cmf (pc' := 132) kc_16_129 rfl (xc_ne_f (X := x2.toInt) (Y := 1) rfl (by decide) (by omega)) ?_
                refine xi_iload_n (pc' := 133) (x := x3) kc_16_132 rfl rfl ?_
                refine xi_goto (pc' := 142) kc_16_133 rfl ?_
                have A97 := ((eh94.2.1 124 (by decide)).trans A90)
                refine xcps4 (xj_set (v := x3) hy90 ry90 x1 (by first | omega | decide) (by first | omega | decide)) (fun y98 s98 hy98 ry98 => ?_)
                refine xi_iastore (pc' := 143) (x' := y98) kc_16_142 rfl A97 rfl (xi_in (by omega) (by rw [hy90]; omega)) s98 (fun hh98 eh98 => ?_)
                have K99 := xk_pa K95 (xk_wa rfl) xD_124 hy98 ry98 eh98
                refine xi_aload_n (pc' := 144) (x := 115) kc_16_143 rfl rfl ?_
                refine xi_iconst (pc' := 145) (v := 0) kc_16_144 rfl rfl ?_
                have A100 := ((eh98.2.1 115 (by decide)).trans A96)
                refine xi_putfield (pc' := 148) (fs' := [.int 0, .int u2, .ref 116, .ref 117, .ref 118, .ref 119, .ref 120, .ref 121, .ref 122, .ref 123, .ref 124, .ref 125, .ref 126, .ref 127, .ref 128, .ref 129, .int u3, .ref 130, .int u4, .ref 131, .ref 132, .ref 133, .ref 134, .int u5, .ref 135, .ref 136, .ref 137, .ref 138, .ref 139, .ref 140, .ref 141, .ref 142, .int u6, .int u7, .int u8, .ref 143, .ref 144, .ref 145, .ref 146, .ref 147, .ref 148, .int 0, .ref 149, .ref 150, .ref 151, .int u10, .ref 152, .ref 153, .ref 154, .ref 155, .ref 156, .ref 157, .ref 158, .ref 159, .int u11, .ref 160, .int u12, .ref 161, .ref 162, .ref 163, .ref 164, .int u13, .ref 165, .ref 166]) kc_16_145 rfl rfl rfl A100 rfl rfl rfl (Nat.le_of_ble_eq_true rfl) rfl (fun hh102 eh101 => ?_)
                have K103 := xk_pf (k := 41) (v := 0) K99 (xk_wf rfl) xD_115 A100 rfl (by first | omega | decide) (by first | omega | decide) eh101 rfl
                refine xi_iload (pc' := 150) (x := v91) kc_16_148 rfl rfl ?_
                refine xi_ireturn kc_16_150 mr_16 rfl ?_
                exact kk v91 hh102 K103
              · refine xi_cmf (pc' := 68) kc_16_65 rfl (xc_le_f (X := x3.toInt) (Y := 20) rfl (by decide) (by omega)) ?_
                refine xi_iload_n (pc' := 69) (x := x3) kc_16_68 rfl rfl ?_
                refine xi_bipush (pc' := 71) (v := 99) kc_16_69 rfl rfl ?_
                by_cases c104 : x3.toInt = 99
                · refine xi_cmt (pc' := 81) kc_16_71 rfl (xc_eq_t (X := x3.toInt) (Y := 99) rfl (by decide) (by omega)) ?_
                  refine xi_iload_n (pc' := 82) (x := x2) kc_16_81 rfl rfl ?_
                  refine xi_ift (pc' := 94) kc_16_82 rfl (xc_ne_t (X := x2.toInt) (Y := 0) rfl (by decide) (by omega)) ?_
                  refine xi_aload_n (pc' := 95) (x := 115) kc_16_94 rfl rfl ?_
                  refine xi_getfield (pc' := 98) (v := .ref 124) kc_16_95 rfl rfl rfl eh15.1 rfl ?_
                  refine xi_iload_n (pc' := 99) (x := x1) kc_16_98 rfl rfl ?_
                  refine xcps4 (xk_arr K17.1 xD_124) (fun y105 A105 hy105 ry105 => ?_)
                  refine xcps4 (xj_get hy105 ry105 (i := x1) (by omega) (by omega)) (fun v106 ev106 bv106 dv106 => ?_)
                  refine xi_iaload (pc' := 100) (v := v106) kc_16_99 rfl A105 (by decide) rfl (xi_in (by omega) (by rw [hy105]; omega)) ev106 ?_
                  refine xi_istore (pc' := 102) (lv' := [(4, .int v106), (0, .ref 115), (1, .int x1), (2, .int x2), (3, .int x3)]) kc_16_100 rfl rfl (xm_lt ml_16 rfl) ?_
                  refine xi_aload_n (pc' := 103) (x := 115) kc_16_102 rfl rfl ?_
                  refine xi_getfield (pc' := 106) (v := .ref 123) kc_16_103 rfl rfl rfl eh15.1 rfl ?_
                  refine xi_iload_n (pc' := 107) (x := x1) kc_16_106 rfl rfl ?_
                  refine xi_iload_n (pc' := 108) (x := x2) kc_16_107 rfl rfl ?_
                  refine xi_ift (pc' := 115) kc_16_108 rfl (xc_ne_t (X := x2.toInt) (Y := 0) rfl (by decide) (by omega)) ?_
                  refine xi_aload_n (pc' := 116) (x := 115) kc_16_115 rfl rfl ?_
                  refine xi_getfield (pc' := 119) (v := .ref 123) kc_16_116 rfl rfl rfl eh15.1 rfl ?_
                  refine xi_iload_n (pc' := 120) (x := x1) kc_16_119 rfl rfl ?_
                  refine xcps4 (xk_arr K17.1 xD_123) (fun y107 A107 hy107 ry107 => ?_)
                  refine xcps4 (xj_get hy107 ry107 (i := x1) (by omega) (by omega)) (fun v108 ev108 bv108 dv108 => ?_)
                  refine xi_iaload (pc' := 121) (v := v108) kc_16_120 rfl A107 (by decide) rfl (xi_in (by omega) (by rw [hy107]; omega)) ev108 ?_
                  refine xcps4 (xj_set (v := v108) hy107 ry107 x1 (by first | omega | decide) (by first | omega | decide)) (fun y109 s109 hy109 ry109 => ?_)
                  refine xi_iastore (pc' := 122) (x' := y109) kc_16_121 rfl A107 rfl (xi_in (by omega) (by rw [hy107]; omega)) s109 (fun hh109 eh109 => ?_)
                  have K110 := xk_pa K17 (xk_wa rfl) xD_123 hy109 ry109 eh109
                  refine xi_aload_n (pc' := 123) (x := 115) kc_16_122 rfl rfl ?_
                  have A111 := ((eh109.2.1 115 (by decide)).trans eh15.1)
                  refine xi_getfield (pc' := 126) (v := .ref 124) kc_16_123 rfl rfl rfl A111 rfl ?_
                  refine xi_iload_n (pc' := 127) (x := x1) kc_16_126 rfl rfl ?_
                  refine xi_iload_n (pc' := 128) (x := x2) kc_16_127 rfl rfl ?_
                  refine xi_iconst (pc' := 129) (v := 1) kc_16_128 rfl rfl ?_
                  refine xi_cmf (pc' := 132) kc_16_129 rfl (xc_ne_f (X := x2.toInt) (Y := 1) rfl (by decide) (by omega)) ?_
                  refine xi_iload_n (pc' := 133) (x := x3) kc_16_132 rfl rfl ?_
                  refine xi_goto (pc' := 142) kc_16_133 rfl ?_
                  have A112 := ((eh109.2.1 124 (by decide)).trans A105)
                  refine xcps4 (xj_set (v := x3) hy105 ry105 x1 (by first | omega | decide) (by first | omega | decide)) (fun y113 s113 hy113 ry113 => ?_)
                  refine xi_iastore (pc' := 143) (x' := y113) kc_16_142 rfl A112 rfl (xi_in (by omega) (by rw [hy105]; omega)) s113 (fun hh113 eh113 => ?_)
                  have K114 := xk_pa K110 (xk_wa rfl) xD_124 hy113 ry113 eh113
                  refine xi_aload_n (pc' := 144) (x := 115) kc_16_143 rfl rfl ?_
                  refine xi_iconst (pc' := 145) (v := 0) kc_16_144 rfl rfl ?_
                  have A115 := ((eh113.2.1 115 (by decide)).trans A111)
                  refine xi_putfield (pc' := 148) (fs' := [.int 0, .int u2, .ref 116, .ref 117, .ref 118, .ref 119, .ref 120, .ref 121, .ref 122, .ref 123, .ref 124, .ref 125, .ref 126, .ref 127, .ref 128, .ref 129, .int u3, .ref 130, .int u4, .ref 131, .ref 132, .ref 133, .ref 134, .int u5, .ref 135, .ref 136, .ref 137, .ref 138, .ref 139, .ref 140, .ref 141, .ref 142, .int u6, .int u7, .int u8, .ref 143, .ref 144, .ref 145, .ref 146, .ref 147, .ref 148, .int 0, .ref 149, .ref 150, .ref 151, .int u10, .ref 152, .ref 153, .ref 154, .ref 155, .ref 156, .ref 157, .ref 158, .ref 159, .int u11, .ref 160, .int u12, .ref 161, .ref 162, .ref 163, .ref 164, .int u13, .ref 165, .ref 166]) kc_16_145 rfl rfl rfl A115 rfl rfl rfl (Nat.le_of_ble_eq_true rfl) rfl (fun hh117 eh116 => ?_)
                  have K118 := xk_pf (k := 41) (v := 0) K114 (xk_wf rfl) xD_115 A115 rfl (by first | omega | decide) (by first | omega | decide) eh116 rfl
                  refine xi_iload (pc' := 150) (x := v106) kc_16_148 rfl rfl ?_
                  refine xi_ireturn kc_16_150 mr_16 rfl ?_
                  exact kk v106 hh117 K118
                · refine xi_cmf (pc' := 74) kc_16_71 rfl (xc_eq_f (X := x3.toInt) (Y := 99) rfl (by decide) (by omega)) ?_
                  refine xi_aload_n (pc' := 75) (x := 115) kc_16_74 rfl rfl ?_
                  refine xi_bipush (pc' := 77) (v := (-6)) kc_16_75 rfl rfl ?_
                  refine xi_virtual (mj := 17) (as := [.int (-6)]) (st1 := []) (lv0 := [(0, .ref 115), (1, .int (-6))]) kc_16_77 rfl rfl rfl rfl rfl eh15.1 (Nat.le_of_ble_eq_true rfl) (hJ _ _ _ _ (by decide)) (xm_le ml_17 rfl) rfl ?_
                  refine xi_aload_n (pc' := 1) (x := 115) kc_17_0 rfl rfl ?_
                  refine xi_getfield (pc' := 4) (v := .ref 140) kc_17_1 rfl rfl rfl eh15.1 rfl ?_
                  refine xi_iload_n (pc' := 5) (x := (-6)) kc_17_4 rfl rfl ?_
                  refine xi_ineg (pc' := 6) (v := 6) kc_17_5 rfl rfl ?_
                  refine xi_dup2 (pc' := 7) kc_17_6 rfl ⟨rfl, rfl⟩ ?_
                  refine xcps4 (xk_arr K17.1 xD_140) (fun y119 A119 hy119 ry119 => ?_)
                  refine xcps4 (xj_get hy119 ry119 (i := 6) (by decide) (by decide)) (fun v120 ev120 bv120 dv120 => ?_)
                  refine xi_iaload (pc' := 8) (v := v120) kc_17_7 rfl A119 (by decide) rfl (xi_in (by decide) (by rw [hy119]; decide)) ev120 ?_
                  refine xi_iconst (pc' := 9) (v := 1) kc_17_8 rfl rfl ?_
                  refine xcps2 (α := Int32) ((v120 : Int32) + 1) (fun v121 ev121 => ?_)
                  have rv121 := xc_rng v121
                  refine xi_iadd (pc' := 10) (v := v121) kc_17_9 rfl ev121 ?_
                  refine xcps4 (xj_set (v := v121) hy119 ry119 6 (by first | omega | decide) (by first | omega | decide)) (fun y122 s122 hy122 ry122 => ?_)
                  refine xi_iastore (pc' := 11) (x' := y122) kc_17_10 rfl A119 rfl (xi_in (by decide) (by rw [hy119]; decide)) s122 (fun hh122 eh122 => ?_)
                  have K123 := xk_pa K17 (xk_wa rfl) xD_140 hy122 ry122 eh122
                  refine xi_ldc (pc' := 13) (v := 1000000000) kc_17_11 rfl rfl ?_
                  refine xi_iload_n (pc' := 14) (x := (-6)) kc_17_13 rfl rfl ?_
                  refine xi_isub (pc' := 15) (v := 1000000006) kc_17_14 rfl rfl ?_
                  refine xi_ireturn kc_17_15 mr_17 rfl ?_
                  show xw J ov (d + 1) 16 (80, [(0, .ref 115), (1, .int x1), (2, .int x2), (3, .int x3)], [.int 1000000006], hh122) _
                  refine xi_ireturn kc_16_80 mr_16 rfl ?_
                  have zc1000000006 : (1000000006 : Int32).toInt = 1000000006 := by decide
                  exact kk 1000000006 hh122 K123
          · refine xi_cmf (pc' := 39) kc_16_36 rfl (xc_ge_f (X := x3.toInt) (Y := 0) rfl (by decide) (by omega)) ?_
            refine xi_aload_n (pc' := 40) (x := 115) kc_16_39 rfl rfl ?_
            refine xi_bipush (pc' := 42) (v := (-4)) kc_16_40 rfl rfl ?_
            refine xi_virtual (mj := 17) (as := [.int (-4)]) (st1 := []) (lv0 := [(0, .ref 115), (1, .int (-4))]) kc_16_42 rfl rfl rfl rfl rfl eh15.1 (Nat.le_of_ble_eq_true rfl) (hJ _ _ _ _ (by decide)) (xm_le ml_17 rfl) rfl ?_
            refine xi_aload_n (pc' := 1) (x := 115) kc_17_0 rfl rfl ?_
            refine xi_getfield (pc' := 4) (v := .ref 140) kc_17_1 rfl rfl rfl eh15.1 rfl ?_
            refine xi_iload_n (pc' := 5) (x := (-4)) kc_17_4 rfl rfl ?_
            refine xi_ineg (pc' := 6) (v := 4) kc_17_5 rfl rfl ?_
            refine xi_dup2 (pc' := 7) kc_17_6 rfl ⟨rfl, rfl⟩ ?_
            refine xcps4 (xk_arr K17.1 xD_140) (fun y124 A124 hy124 ry124 => ?_)
            refine xcps4 (xj_get hy124 ry124 (i := 4) (by decide) (by decide)) (fun v125 ev125 bv125 dv125 => ?_)
            refine xi_iaload (pc' := 8) (v := v125) kc_17_7 rfl A124 (by decide) rfl (xi_in (by decide) (by rw [hy124]; decide)) ev125 ?_
            refine xi_iconst (pc' := 9) (v := 1) kc_17_8 rfl rfl ?_
            refine xcps2 (α := Int32) ((v125 : Int32) + 1) (fun v126 ev126 => ?_)
            have rv126 := xc_rng v126
            refine xi_iadd (pc' := 10) (v := v126) kc_17_9 rfl ev126 ?_
            refine xcps4 (xj_set (v := v126) hy124 ry124 4 (by first | omega | decide) (by first | omega | decide)) (fun y127 s127 hy127 ry127 => ?_)
            refine xi_iastore (pc' := 11) (x' := y127) kc_17_10 rfl A124 rfl (xi_in (by decide) (by rw [hy124]; decide)) s127 (fun hh127 eh127 => ?_)
            have K128 := xk_pa K17 (xk_wa rfl) xD_140 hy127 ry127 eh127
            refine xi_ldc (pc' := 13) (v := 1000000000) kc_17_11 rfl rfl ?_
            refine xi_iload_n (pc' := 14) (x := (-4)) kc_17_13 rfl rfl ?_
            refine xi_isub (pc' := 15) (v := 1000000004) kc_17_14 rfl rfl ?_
            refine xi_ireturn kc_17_15 mr_17 rfl ?_
            show xw J ov (d + 1) 16 (45, [(0, .ref 115), (1, .int x1), (2, .int x2), (3, .int x3)], [.int 1000000004], hh127) _
            refine xi_ireturn kc_16_45 mr_16 rfl ?_
            have zc1000000004 : (1000000004 : Int32).toInt = 1000000004 := by decide
            exact kk 1000000004 hh127 K128
set_option maxHeartbeats 4000000 in
theorem mt_7_0 {J : xe_J} {ov : List (List Int32)} (hJ : ∀ d mj as h, mj ≠ xe_loff → J d mj as h = none) (hov1 : ov[1]? = some [10, 0, 0, 0, 0, 0]) (hov2 : ov[2]? = some [99, 30, 50, 50, 1, 99999]) {d : Nat} {Q : Option Value → xe_H → Prop} {h : xe_H} {x0 : Int32} {x1 : Int32} (T : xt h) (kk : (∀ (r : Int32) (h' : xe_H), xk [(0, 9), (115, 1), (83, 0), (29, 0), (31, 0), (33, 0), (35, 0), (37, 0), (39, 0), (41, 0), (43, 0), (45, 0), (47, 0), (49, 0), (51, 0), (125, 0), (66, 8), (115, 18), (71, 0), (132, 0)] h h' → Q (some (.int r)) h')) : xw J ov (d + 1) 7 (0, [(0, .int x0), (1, .int x1)], [], h) Q := by
  have K : xk [(0, 9), (115, 1), (83, 0), (29, 0), (31, 0), (33, 0), (35, 0), (37, 0), (39, 0), (41, 0), (43, 0), (45, 0), (47, 0), (49, 0), (51, 0), (125, 0), (66, 8), (115, 18), (71, 0), (132, 0)] h h := xk_re T
  have rx0 := xc_rng x0
  have rx1 := xc_rng x1
  refine xi_iload_n (pc' := 1) (x := x0) kc_7_0 rfl rfl ?_
  refine xi_iload_n (pc' := 2) (x := x1) kc_7_1 rfl rfl ?_
  by_cases c1 : x1.toInt < x0.toInt
  · refine xi_cmt (pc' := 9) kc_7_2 rfl (xc_gt_t (X := x0.toInt) (Y := x1.toInt) rfl rfl (by omega)) ?_
    refine xi_iload_n (pc' := 10) (x := x1) kc_7_9 rfl rfl ?_
    refine xi_ireturn kc_7_10 mr_7 rfl ?_
    exact kk x1 h K
  · refine xi_cmf (pc' := 5) kc_7_2 rfl (xc_gt_f (X := x0.toInt) (Y := x1.toInt) rfl rfl (by omega)) ?_
    refine xi_iload_n (pc' := 6) (x := x0) kc_7_5 rfl rfl ?_
    refine xi_goto (pc' := 10) kc_7_6 rfl ?_
    refine xi_ireturn kc_7_10 mr_7 rfl ?_
    exact kk x0 h K
set_option maxHeartbeats 4000000 in
theorem lp_162_0 {J : xe_J} {ov : List (List Int32)} (hJ : ∀ d mj as h, mj ≠ xe_loff → J d mj as h = none) (hov1 : ov[1]? = some [10, 0, 0, 0, 0, 0]) (hov2 : ov[2]? = some [99, 30, 50, 50, 1, 99999]) {d : Nat} {t : Nat} (hrec : (∀ {Q : Option Value → xe_H → Prop} {h : xe_H} {w1 : Int64} {x3 : Int32} {x4 : Int32}, xt h → (0 ≤ x4.toInt ∧ x4.toInt ≤ 9) → 9 - x4.toInt ≤ ((t : Nat) : Int) → (∀ (r : Int32) (h' : xe_H), xk [(0, 9), (115, 1), (83, 0), (29, 0), (31, 0), (33, 0), (35, 0), (37, 0), (39, 0), (41, 0), (43, 0), (45, 0), (47, 0), (49, 0), (51, 0), (125, 0), (66, 8), (115, 18), (71, 0), (132, 0)] h h' → Q (some (.int r)) h') → xw J ov (d + t + 2) 162 (0, [(0, .ref 75), (1, .long w1), (3, .int x3), (4, .int x4)], [], h) Q)) {Q : Option Value → xe_H → Prop} {hb : xe_H} (kk : (∀ (r : Int32) (h' : xe_H), xk [(0, 9), (115, 1), (83, 0), (29, 0), (31, 0), (33, 0), (35, 0), (37, 0), (39, 0), (41, 0), (43, 0), (45, 0), (47, 0), (49, 0), (51, 0), (125, 0), (66, 8), (115, 18), (71, 0), (132, 0)] hb h' → Q (some (.int r)) h')) : ∀ m : Nat, (∀ (w1 : Int64) (x3 : Int32) (x4 : Int32) (x5 : Int32) (x6 : Int32) (x7 : Int32) (h : xe_H), (0 ≤ x3.toInt ∧ x3.toInt ≤ 6560) → (0 ≤ x4.toInt ∧ x4.toInt ≤ 8) → (0 ≤ x7.toInt ∧ x7.toInt ≤ 8) → (9 - x4.toInt ≤ (t : Int) + 1) → xk [(0, 9), (115, 1), (83, 0), (29, 0), (31, 0), (33, 0), (35, 0), (37, 0), (39, 0), (41, 0), (43, 0), (45, 0), (47, 0), (49, 0), (51, 0), (125, 0), (66, 8), (115, 18), (71, 0), (132, 0)] hb h → (-1) * x7.toInt + 8 < (m : Int) → xw J ov (d + t + 3) 162 (56, [(0, .ref 75), (1, .long w1), (3, .int x3), (4, .int x4), (5, .int x5), (6, .int x6), (7, .int x7)], [], h) Q) := by
  intro m
  induction m with
  | zero =>
    intro w1 x3 x4 x5 x6 x7 h b3 b4 b7 hT K hm; have rx5 := xc_rng x5; have rx6 := xc_rng x6; exfalso; omega
  | succ m ih =>
    have i0 := ih
    intro w1 x3 x4 x5 x6 x7 h b3 b4 b7 hT K hm
    have rx5 := xc_rng x5
    have rx6 := xc_rng x6
    refine xi_iload (pc' := 58) (x := x7) kc_162_56 rfl rfl ?_
    refine xi_aload_n (pc' := 59) (x := 75) kc_162_58 rfl rfl ?_
    refine xp_75 K.1 (fun u1 bu1 A2 => ?_)
    refine xi_getfield (pc' := 62) (v := .int u1) kc_162_59 rfl rfl rfl A2 rfl ?_
    by_cases c3 : u1.toInt ≤ x7.toInt
    · refine xi_cmt (pc' := 196) kc_162_62 rfl (xc_ge_t (X := x7.toInt) (Y := u1.toInt) rfl rfl (by omega)) ?_
      refine xi_aload_n (pc' := 197) (x := 75) kc_162_196 rfl rfl ?_
      refine xi_getfield (pc' := 200) (v := .ref 78) kc_162_197 rfl rfl rfl A2 rfl ?_
      refine xi_iload_n (pc' := 201) (x := x3) kc_162_200 rfl rfl ?_
      refine xi_iload (pc' := 203) (x := x5) kc_162_201 rfl rfl ?_
      refine xi_bipush (pc' := 205) (v := (-9)) kc_162_203 rfl rfl ?_
      by_cases c4 : x5.toInt = (-9)
      · refine xi_cmf (pc' := 208) kc_162_205 rfl (xc_ne_f (X := x5.toInt) (Y := (-9)) rfl (by decide) (by omega)) ?_
        refine xi_iconst (pc' := 209) (v := 0) kc_162_208 rfl rfl ?_
        refine xi_goto (pc' := 214) kc_162_209 rfl ?_
        refine xcps4 (xk_arr K.1 xD_78) (fun y5 A5 hy5 ry5 => ?_)
        refine xcps4 (xj_set (v := 0) hy5 ry5 x3 (by first | omega | decide) (by first | omega | decide)) (fun y6 s6 hy6 ry6 => ?_)
        refine xi_iastore (pc' := 215) (x' := y6) kc_162_214 rfl A5 rfl (xi_in (by omega) (by rw [hy5]; omega)) s6 (fun hh6 eh6 => ?_)
        have K7 := xk_pa K (xk_wa rfl) xD_78 hy6 ry6 eh6
        refine xi_aload_n (pc' := 216) (x := 75) kc_162_215 rfl rfl ?_
        have A8 := ((eh6.2.1 75 (by decide)).trans A2)
        refine xi_getfield (pc' := 219) (v := .ref 78) kc_162_216 rfl rfl rfl A8 rfl ?_
        refine xi_iload_n (pc' := 220) (x := x3) kc_162_219 rfl rfl ?_
        refine xcps4 (xj_get hy6 ry6 (i := x3) (by omega) (by omega)) (fun v9 ev9 bv9 dv9 => ?_)
        refine xi_iaload (pc' := 221) (v := v9) kc_162_220 rfl eh6.1 (by decide) rfl (xi_in (by omega) (by rw [hy6]; omega)) ev9 ?_
        refine xi_ireturn kc_162_221 mr_162 rfl ?_
        exact kk v9 hh6 K7
      · refine xi_cmt (pc' := 212) kc_162_205 rfl (xc_ne_t (X := x5.toInt) (Y := (-9)) rfl (by decide) (by omega)) ?_
        refine xi_iload (pc' := 214) (x := x5) kc_162_212 rfl rfl ?_
        refine xcps4 (xk_arr K.1 xD_78) (fun y10 A10 hy10 ry10 => ?_)
        refine xcps4 (xj_set (v := x5) hy10 ry10 x3 (by first | omega | decide) (by first | omega | decide)) (fun y11 s11 hy11 ry11 => ?_)
        refine xi_iastore (pc' := 215) (x' := y11) kc_162_214 rfl A10 rfl (xi_in (by omega) (by rw [hy10]; omega)) s11 (fun hh11 eh11 => ?_)
        have K12 := xk_pa K (xk_wa rfl) xD_78 hy11 ry11 eh11
        refine xi_aload_n (pc' := 216) (x := 75) kc_162_215 rfl rfl ?_
        have A13 := ((eh11.2.1 75 (by decide)).trans A2)
        refine xi_getfield (pc' := 219) (v := .ref 78) kc_162_216 rfl rfl rfl A13 rfl ?_
        refine xi_iload_n (pc' := 220) (x := x3) kc_162_219 rfl rfl ?_
        refine xcps4 (xj_get hy11 ry11 (i := x3) (by omega) (by omega)) (fun v14 ev14 bv14 dv14 => ?_)
        refine xi_iaload (pc' := 221) (v := v14) kc_162_220 rfl eh11.1 (by decide) rfl (xi_in (by omega) (by rw [hy11]; omega)) ev14 ?_
        refine xi_ireturn kc_162_221 mr_162 rfl ?_
        exact kk v14 hh11 K12
    · refine xi_cmf (pc' := 65) kc_162_62 rfl (xc_ge_f (X := x7.toInt) (Y := u1.toInt) rfl rfl (by omega)) ?_
      refine xi_iload (pc' := 67) (x := x7) kc_162_65 rfl rfl ?_
      refine xi_bipush (pc' := 69) (v := 8) kc_162_67 rfl rfl ?_
      refine xi_cmf (pc' := 72) kc_162_69 rfl (xc_ge_f (X := x7.toInt) (Y := 8) rfl (by decide) (by omega)) ?_
      refine xi_lload_n (pc' := 73) (x := w1) kc_162_72 rfl rfl ?_
      refine xi_aload_n (pc' := 74) (x := 75) kc_162_73 rfl rfl ?_
      refine xi_getfield (pc' := 77) (v := .ref 76) kc_162_74 rfl rfl rfl A2 rfl ?_
      refine xi_iload (pc' := 79) (x := x7) kc_162_77 rfl rfl ?_
      obtain ⟨y15, A15, hy15⟩ := xk_larr K.1 xD_76
      refine xcps2 (α := Int64) (y15.getD (Int32.toNatClampNeg x7) 0) (fun v16 ev16 => ?_)
      refine xi_laload (pc' := 80) (v := v16) kc_162_79 rfl A15 rfl (xi_in (by omega) (by rw [hy15]; omega)) ev16 ?_
      refine xcps2 (α := Int64) ((w1 : Int64) &&& v16) (fun v17 ev17 => ?_)
      refine xi_land (pc' := 81) (v := v17) kc_162_80 rfl ev17 ?_
      refine xi_lstore (pc' := 83) (lv' := [(8, .long v17), (0, .ref 75), (1, .long w1), (3, .int x3), (4, .int x4), (5, .int x5), (6, .int x6), (7, .int x7)]) kc_162_81 rfl rfl (xm_lt ml_162 rfl) ?_
      refine xi_lload_n (pc' := 84) (x := w1) kc_162_83 rfl rfl ?_
      refine xi_aload_n (pc' := 85) (x := 75) kc_162_84 rfl rfl ?_
      refine xi_getfield (pc' := 88) (v := .ref 76) kc_162_85 rfl rfl rfl A2 rfl ?_
      refine xi_iload (pc' := 90) (x := x7) kc_162_88 rfl rfl ?_
      refine xi_laload (pc' := 91) (v := v16) kc_162_90 rfl A15 rfl (xi_in (by omega) (by rw [hy15]; omega)) ev16 ?_
      refine xi_ldc2_w (pc' := 94) (v := (-1)) kc_162_91 rfl rfl ?_
      refine xcps2 (α := Int64) ((v16 : Int64) ^^^ (-1)) (fun v18 ev18 => ?_)
      refine xi_lxor (pc' := 95) (v := v18) kc_162_94 rfl ev18 ?_
      refine xcps2 (α := Int64) ((w1 : Int64) &&& v18) (fun v19 ev19 => ?_)
      refine xi_land (pc' := 96) (v := v19) kc_162_95 rfl ev19 ?_
      refine xi_lstore (pc' := 98) (lv' := [(10, .long v19), (8, .long v17), (0, .ref 75), (1, .long w1), (3, .int x3), (4, .int x4), (5, .int x5), (6, .int x6), (7, .int x7)]) kc_162_96 rfl rfl (xm_lt ml_162 rfl) ?_
      refine xi_lload (pc' := 100) (x := v17) kc_162_98 rfl rfl ?_
      refine xi_lconst (pc' := 101) (v := 0) kc_162_100 rfl rfl ?_
      refine xcps2 (α := Int32) (lg_cmp v17 0) (fun v20 ev20 => ?_)
      have rv20 := xc_rng v20
      refine xi_lcmp (pc' := 102) (v := v20) kc_162_101 rfl ev20 ?_
      by_cases c21 : v20.toInt = 0
      · refine xi_ift (pc' := 184) kc_162_102 rfl (xc_eq_t (X := v20.toInt) (Y := 0) rfl (by decide) (by omega)) ?_
        refine xi_iload (pc' := 186) (x := x6) kc_162_184 rfl rfl ?_
        refine xi_iconst (pc' := 187) (v := 3) kc_162_186 rfl rfl ?_
        refine xcps2 (α := Int32) ((x6 : Int32) * 3) (fun v22 ev22 => ?_)
        have rv22 := xc_rng v22
        refine xi_imul (pc' := 188) (v := v22) kc_162_187 rfl ev22 ?_
        refine xi_istore (pc' := 190) (lv' := [(6, .int v22), (10, .long v19), (8, .long v17), (0, .ref 75), (1, .long w1), (3, .int x3), (4, .int x4), (5, .int x5), (7, .int x7)]) kc_162_188 rfl rfl (xm_lt ml_162 rfl) ?_
        refine xcps2 (α := Int32) (x7 + 1) (fun v23 ev23 => ?_)
        have zv23 : v23.toInt = (x7.toInt + 1) := by rw [← ev23]; exact (xz_add (X := x7.toInt) (Y := 1) rfl (by decide) (by omega) (by omega)).trans (by omega)
        refine xi_iinc (pc' := 193) (x := x7) (v := v23) (lv' := [(7, .int v23), (6, .int v22), (10, .long v19), (8, .long v17), (0, .ref 75), (1, .long w1), (3, .int x3), (4, .int x4), (5, .int x5)]) kc_162_190 rfl rfl ev23 rfl (xm_lt ml_162 rfl) ?_
        refine xi_goto (pc' := 56) kc_162_193 rfl ?_
        refine xw_lv (b := [(0, .ref 75), (1, .long w1), (3, .int x3), (4, .int x4), (5, .int x5), (6, .int v22), (7, .int v23)]) (lvS_cons (lvS_cons (lvS_cons (lvS_cons (lvS_cons (lvS_cons (lvS_cons (lvS_nil (show ([7, 6, 10, 8, 0, 1, 3, 4, 5] : List Nat).Nodup by decide)) rfl) rfl) rfl) rfl) rfl) rfl) rfl) ?_
        exact i0 w1 x3 x4 x5 v22 v23 h (by omega) (by omega) (by omega) (by omega) K (by omega)
      · have zv17c21 : v17 ≠ 0 := xj_lc ev20 (by omega)
        refine xi_iff (pc' := 105) kc_162_102 rfl (xc_eq_f (X := v20.toInt) (Y := 0) rfl (by decide) (by omega)) ?_
        refine xi_lload (pc' := 107) (x := v19) kc_162_105 rfl rfl ?_
        refine xi_lconst (pc' := 108) (v := 0) kc_162_107 rfl rfl ?_
        refine xcps2 (α := Int32) (lg_cmp v19 0) (fun v24 ev24 => ?_)
        have rv24 := xc_rng v24
        refine xi_lcmp (pc' := 109) (v := v24) kc_162_108 rfl ev24 ?_
        by_cases c25 : v24.toInt = 0
        · refine xi_ift (pc' := 184) kc_162_109 rfl (xc_eq_t (X := v24.toInt) (Y := 0) rfl (by decide) (by omega)) ?_
          refine xi_iload (pc' := 186) (x := x6) kc_162_184 rfl rfl ?_
          refine xi_iconst (pc' := 187) (v := 3) kc_162_186 rfl rfl ?_
          refine xcps2 (α := Int32) ((x6 : Int32) * 3) (fun v26 ev26 => ?_)
          have rv26 := xc_rng v26
          refine xi_imul (pc' := 188) (v := v26) kc_162_187 rfl ev26 ?_
          refine xi_istore (pc' := 190) (lv' := [(6, .int v26), (10, .long v19), (8, .long v17), (0, .ref 75), (1, .long w1), (3, .int x3), (4, .int x4), (5, .int x5), (7, .int x7)]) kc_162_188 rfl rfl (xm_lt ml_162 rfl) ?_
          refine xcps2 (α := Int32) (x7 + 1) (fun v27 ev27 => ?_)
          have zv27 : v27.toInt = (x7.toInt + 1) := by rw [← ev27]; exact (xz_add (X := x7.toInt) (Y := 1) rfl (by decide) (by omega) (by omega)).trans (by omega)
          refine xi_iinc (pc' := 193) (x := x7) (v := v27) (lv' := [(7, .int v27), (6, .int v26), (10, .long v19), (8, .long v17), (0, .ref 75), (1, .long w1), (3, .int x3), (4, .int x4), (5, .int x5)]) kc_162_190 rfl rfl ev27 rfl (xm_lt ml_162 rfl) ?_
          refine xi_goto (pc' := 56) kc_162_193 rfl ?_
          refine xw_lv (b := [(0, .ref 75), (1, .long w1), (3, .int x3), (4, .int x4), (5, .int x5), (6, .int v26), (7, .int v27)]) (lvS_cons (lvS_cons (lvS_cons (lvS_cons (lvS_cons (lvS_cons (lvS_cons (lvS_nil (show ([7, 6, 10, 8, 0, 1, 3, 4, 5] : List Nat).Nodup by decide)) rfl) rfl) rfl) rfl) rfl) rfl) rfl) ?_
          exact i0 w1 x3 x4 x5 v26 v27 h (by omega) (by omega) (by omega) (by omega) K (by omega)
        · have zv19c25 : v19 ≠ 0 := xj_lc ev24 (by omega)
          refine xi_iff (pc' := 112) kc_162_109 rfl (xc_eq_f (X := v24.toInt) (Y := 0) rfl (by decide) (by omega)) ?_
          refine xi_aload_n (pc' := 113) (x := 75) kc_162_112 rfl rfl ?_
          refine xi_lload (pc' := 115) (x := v17) kc_162_113 rfl rfl ?_
          refine xi_iload_n (pc' := 116) (x := x3) kc_162_115 rfl rfl ?_
          refine xi_iload (pc' := 118) (x := x6) kc_162_116 rfl rfl ?_
          refine xcps2 (α := Int32) ((x3 : Int32) + x6) (fun v28 ev28 => ?_)
          have rv28 := xc_rng v28
          refine xi_iadd (pc' := 119) (v := v28) kc_162_118 rfl ev28 ?_
          refine xi_iload (pc' := 121) (x := x4) kc_162_119 rfl rfl ?_
          refine xi_iconst (pc' := 122) (v := 1) kc_162_121 rfl rfl ?_
          refine xcps2 (α := Int32) (x4 + 1) (fun v29 ev29 => ?_)
          have zv29 : v29.toInt = (x4.toInt + 1) := by rw [← ev29]; exact (xz_add (X := x4.toInt) (Y := 1) rfl (by decide) (by omega) (by omega)).trans (by omega)
          refine xi_iadd (pc' := 123) (v := v29) kc_162_122 rfl ev29 ?_
          refine xi_virtual (mj := 162) (as := [.long v17, .int v28, .int v29]) (st1 := []) (lv0 := [(0, .ref 75), (1, .long v17), (3, .int v28), (4, .int v29)]) kc_162_123 rfl rfl rfl rfl rfl A2 (Nat.le_of_ble_eq_true rfl) (hJ _ _ _ _ (by decide)) (xm_le ml_162 rfl) rfl ?_
          refine hrec (w1 := v17) (x3 := v28) (x4 := v29) K.1 (by first | omega | decide) (by first | omega | decide) (fun r30 hh31 K32 => ?_)
          have br30 := xc_rng r30
          have K33 := xk_tr K K32 rfl
          show xw J ov (d + t + 3) 162 (126, [(10, .long v19), (8, .long v17), (0, .ref 75), (1, .long w1), (3, .int x3), (4, .int x4), (5, .int x5), (6, .int x6), (7, .int x7)], [.int r30], hh31) _
          refine xi_aload_n (pc' := 127) (x := 75) kc_162_126 rfl rfl ?_
          refine xi_lload (pc' := 129) (x := v19) kc_162_127 rfl rfl ?_
          refine xi_iload_n (pc' := 130) (x := x3) kc_162_129 rfl rfl ?_
          refine xi_iconst (pc' := 131) (v := 2) kc_162_130 rfl rfl ?_
          refine xi_iload (pc' := 133) (x := x6) kc_162_131 rfl rfl ?_
          refine xcps2 (α := Int32) ((2 : Int32) * x6) (fun v34 ev34 => ?_)
          have rv34 := xc_rng v34
          refine xi_imul (pc' := 134) (v := v34) kc_162_133 rfl ev34 ?_
          refine xcps2 (α := Int32) ((x3 : Int32) + v34) (fun v35 ev35 => ?_)
          have rv35 := xc_rng v35
          refine xi_iadd (pc' := 135) (v := v35) kc_162_134 rfl ev35 ?_
          refine xi_iload (pc' := 137) (x := x4) kc_162_135 rfl rfl ?_
          refine xi_iconst (pc' := 138) (v := 1) kc_162_137 rfl rfl ?_
          refine xi_iadd (pc' := 139) (v := v29) kc_162_138 rfl ev29 ?_
          refine xp_75 K33.1 (fun u36 bu36 A37 => ?_)
          refine xi_virtual (mj := 162) (as := [.long v19, .int v35, .int v29]) (st1 := [.int r30]) (lv0 := [(0, .ref 75), (1, .long v19), (3, .int v35), (4, .int v29)]) kc_162_139 rfl rfl rfl rfl rfl A37 (Nat.le_of_ble_eq_true rfl) (hJ _ _ _ _ (by decide)) (xm_le ml_162 rfl) rfl ?_
          refine hrec (w1 := v19) (x3 := v35) (x4 := v29) K33.1 (by first | omega | decide) (by first | omega | decide) (fun r38 hh39 K40 => ?_)
          have br38 := xc_rng r38
          have K41 := xk_tr K33 K40 rfl
          show xw J ov (d + t + 3) 162 (142, [(10, .long v19), (8, .long v17), (0, .ref 75), (1, .long w1), (3, .int x3), (4, .int x4), (5, .int x5), (6, .int x6), (7, .int x7)], [.int r38, .int r30], hh39) _
          refine xi_static (mj := 6) (as := [.int r30, .int r38]) (st1 := []) (lv0 := [(0, .int r30), (1, .int r38)]) kc_162_142 rfl rfl (Nat.le_of_ble_eq_true rfl) rfl rfl (Nat.le_of_ble_eq_true rfl) (hJ _ _ _ _ (by decide)) (xm_le ml_6 rfl) rfl ?_
          refine mt_6_0 hJ hov1 hov2 (d := d + t + 1) (x0 := r30) (x1 := r38) K41.1 (fun r42 hh43 K44 => ?_)
          have br42 := xc_rng r42
          have K45 := xk_tr K41 K44 rfl
          show xw J ov (d + t + 3) 162 (145, [(10, .long v19), (8, .long v17), (0, .ref 75), (1, .long w1), (3, .int x3), (4, .int x4), (5, .int x5), (6, .int x6), (7, .int x7)], [.int r42], hh43) _
          refine xi_istore (pc' := 147) (lv' := [(12, .int r42), (10, .long v19), (8, .long v17), (0, .ref 75), (1, .long w1), (3, .int x3), (4, .int x4), (5, .int x5), (6, .int x6), (7, .int x7)]) kc_162_145 rfl rfl (xm_lt ml_162 rfl) ?_
          refine xi_iload (pc' := 149) (x := x5) kc_162_147 rfl rfl ?_
          refine xi_bipush (pc' := 151) (v := (-9)) kc_162_149 rfl rfl ?_
          by_cases c46 : x5.toInt = (-9)
          · refine xi_cmf (pc' := 154) kc_162_151 rfl (xc_ne_f (X := x5.toInt) (Y := (-9)) rfl (by decide) (by omega)) ?_
            refine xi_aload_n (pc' := 155) (x := 75) kc_162_154 rfl rfl ?_
            refine xp_75 K45.1 (fun u47 bu47 A48 => ?_)
            refine xi_getfield (pc' := 158) (v := .ref 77) kc_162_155 rfl rfl rfl A48 rfl ?_
            refine xi_iload (pc' := 160) (x := x7) kc_162_158 rfl rfl ?_
            refine xcps4 (xk_arr K45.1 xD_77) (fun y49 A49 hy49 ry49 => ?_)
            refine xcps4 (xj_get hy49 ry49 (i := x7) (by omega) (by omega)) (fun v50 ev50 bv50 dv50 => ?_)
            refine xi_iaload (pc' := 161) (v := v50) kc_162_160 rfl A49 (by decide) rfl (xi_in (by omega) (by rw [hy49]; omega)) ev50 ?_
            refine xi_iload (pc' := 163) (x := r42) kc_162_161 rfl rfl ?_
            refine xcps2 (α := Int32) ((v50 : Int32) + r42) (fun v51 ev51 => ?_)
            have rv51 := xc_rng v51
            refine xi_iadd (pc' := 164) (v := v51) kc_162_163 rfl ev51 ?_
            refine xi_goto (pc' := 182) kc_162_164 rfl ?_
            refine xi_istore (pc' := 184) (lv' := [(5, .int v51), (12, .int r42), (10, .long v19), (8, .long v17), (0, .ref 75), (1, .long w1), (3, .int x3), (4, .int x4), (6, .int x6), (7, .int x7)]) kc_162_182 rfl rfl (xm_lt ml_162 rfl) ?_
            refine xi_iload (pc' := 186) (x := x6) kc_162_184 rfl rfl ?_
            refine xi_iconst (pc' := 187) (v := 3) kc_162_186 rfl rfl ?_
            refine xcps2 (α := Int32) ((x6 : Int32) * 3) (fun v52 ev52 => ?_)
            have rv52 := xc_rng v52
            refine xi_imul (pc' := 188) (v := v52) kc_162_187 rfl ev52 ?_
            refine xi_istore (pc' := 190) (lv' := [(6, .int v52), (5, .int v51), (12, .int r42), (10, .long v19), (8, .long v17), (0, .ref 75), (1, .long w1), (3, .int x3), (4, .int x4), (7, .int x7)]) kc_162_188 rfl rfl (xm_lt ml_162 rfl) ?_
            refine xcps2 (α := Int32) (x7 + 1) (fun v53 ev53 => ?_)
            have zv53 : v53.toInt = (x7.toInt + 1) := by rw [← ev53]; exact (xz_add (X := x7.toInt) (Y := 1) rfl (by decide) (by omega) (by omega)).trans (by omega)
            refine xi_iinc (pc' := 193) (x := x7) (v := v53) (lv' := [(7, .int v53), (6, .int v52), (5, .int v51), (12, .int r42), (10, .long v19), (8, .long v17), (0, .ref 75), (1, .long w1), (3, .int x3), (4, .int x4)]) kc_162_190 rfl rfl ev53 rfl (xm_lt ml_162 rfl) ?_
            refine xi_goto (pc' := 56) kc_162_193 rfl ?_
            refine xw_lv (b := [(0, .ref 75), (1, .long w1), (3, .int x3), (4, .int x4), (5, .int v51), (6, .int v52), (7, .int v53)]) (lvS_cons (lvS_cons (lvS_cons (lvS_cons (lvS_cons (lvS_cons (lvS_cons (lvS_nil (show ([7, 6, 5, 12, 10, 8, 0, 1, 3, 4] : List Nat).Nodup by decide)) rfl) rfl) rfl) rfl) rfl) rfl) rfl) ?_
            exact i0 w1 x3 x4 v51 v52 v53 hh43 (by omega) (by omega) (by omega) (by omega) K45 (by omega)
          · refine xi_cmt (pc' := 167) kc_162_151 rfl (xc_ne_t (X := x5.toInt) (Y := (-9)) rfl (by decide) (by omega)) ?_
            refine xi_iload (pc' := 169) (x := x5) kc_162_167 rfl rfl ?_
            refine xi_aload_n (pc' := 170) (x := 75) kc_162_169 rfl rfl ?_
            refine xp_75 K45.1 (fun u54 bu54 A55 => ?_)
            refine xi_getfield (pc' := 173) (v := .ref 77) kc_162_170 rfl rfl rfl A55 rfl ?_
            refine xi_iload (pc' := 175) (x := x7) kc_162_173 rfl rfl ?_
            refine xcps4 (xk_arr K45.1 xD_77) (fun y56 A56 hy56 ry56 => ?_)
            refine xcps4 (xj_get hy56 ry56 (i := x7) (by omega) (by omega)) (fun v57 ev57 bv57 dv57 => ?_)
            refine xi_iaload (pc' := 176) (v := v57) kc_162_175 rfl A56 (by decide) rfl (xi_in (by omega) (by rw [hy56]; omega)) ev57 ?_
            refine xi_iload (pc' := 178) (x := r42) kc_162_176 rfl rfl ?_
            refine xcps2 (α := Int32) ((v57 : Int32) + r42) (fun v58 ev58 => ?_)
            have rv58 := xc_rng v58
            refine xi_iadd (pc' := 179) (v := v58) kc_162_178 rfl ev58 ?_
            refine xi_static (mj := 7) (as := [.int x5, .int v58]) (st1 := []) (lv0 := [(0, .int x5), (1, .int v58)]) kc_162_179 rfl rfl (Nat.le_of_ble_eq_true rfl) rfl rfl (Nat.le_of_ble_eq_true rfl) (hJ _ _ _ _ (by decide)) (xm_le ml_7 rfl) rfl ?_
            refine mt_7_0 hJ hov1 hov2 (d := d + t + 1) (x0 := x5) (x1 := v58) K45.1 (fun r59 hh60 K61 => ?_)
            have br59 := xc_rng r59
            have K62 := xk_tr K45 K61 rfl
            show xw J ov (d + t + 3) 162 (182, [(12, .int r42), (10, .long v19), (8, .long v17), (0, .ref 75), (1, .long w1), (3, .int x3), (4, .int x4), (5, .int x5), (6, .int x6), (7, .int x7)], [.int r59], hh60) _
            refine xi_istore (pc' := 184) (lv' := [(5, .int r59), (12, .int r42), (10, .long v19), (8, .long v17), (0, .ref 75), (1, .long w1), (3, .int x3), (4, .int x4), (6, .int x6), (7, .int x7)]) kc_162_182 rfl rfl (xm_lt ml_162 rfl) ?_
            refine xi_iload (pc' := 186) (x := x6) kc_162_184 rfl rfl ?_
            refine xi_iconst (pc' := 187) (v := 3) kc_162_186 rfl rfl ?_
            refine xcps2 (α := Int32) ((x6 : Int32) * 3) (fun v63 ev63 => ?_)
            have rv63 := xc_rng v63
            refine xi_imul (pc' := 188) (v := v63) kc_162_187 rfl ev63 ?_
            refine xi_istore (pc' := 190) (lv' := [(6, .int v63), (5, .int r59), (12, .int r42), (10, .long v19), (8, .long v17), (0, .ref 75), (1, .long w1), (3, .int x3), (4, .int x4), (7, .int x7)]) kc_162_188 rfl rfl (xm_lt ml_162 rfl) ?_
            refine xcps2 (α := Int32) (x7 + 1) (fun v64 ev64 => ?_)
            have zv64 : v64.toInt = (x7.toInt + 1) := by rw [← ev64]; exact (xz_add (X := x7.toInt) (Y := 1) rfl (by decide) (by omega) (by omega)).trans (by omega)
            refine xi_iinc (pc' := 193) (x := x7) (v := v64) (lv' := [(7, .int v64), (6, .int v63), (5, .int r59), (12, .int r42), (10, .long v19), (8, .long v17), (0, .ref 75), (1, .long w1), (3, .int x3), (4, .int x4)]) kc_162_190 rfl rfl ev64 rfl (xm_lt ml_162 rfl) ?_
            refine xi_goto (pc' := 56) kc_162_193 rfl ?_
            refine xw_lv (b := [(0, .ref 75), (1, .long w1), (3, .int x3), (4, .int x4), (5, .int r59), (6, .int v63), (7, .int v64)]) (lvS_cons (lvS_cons (lvS_cons (lvS_cons (lvS_cons (lvS_cons (lvS_cons (lvS_nil (show ([7, 6, 5, 12, 10, 8, 0, 1, 3, 4] : List Nat).Nodup by decide)) rfl) rfl) rfl) rfl) rfl) rfl) rfl) ?_
            exact i0 w1 x3 x4 r59 v63 v64 hh60 (by omega) (by omega) (by omega) (by omega) K62 (by omega)
set_option maxHeartbeats 4000000 in
theorem mr_162_0 {J : xe_J} {ov : List (List Int32)} (hJ : ∀ d mj as h, mj ≠ xe_loff → J d mj as h = none) (hov1 : ov[1]? = some [10, 0, 0, 0, 0, 0]) (hov2 : ov[2]? = some [99, 30, 50, 50, 1, 99999]) {d : Nat} : ∀ t : Nat, (∀ {Q : Option Value → xe_H → Prop} {h : xe_H} {w1 : Int64} {x3 : Int32} {x4 : Int32}, xt h → (0 ≤ x4.toInt ∧ x4.toInt ≤ 9) → 9 - x4.toInt ≤ ((t : Nat) : Int) → (∀ (r : Int32) (h' : xe_H), xk [(0, 9), (115, 1), (83, 0), (29, 0), (31, 0), (33, 0), (35, 0), (37, 0), (39, 0), (41, 0), (43, 0), (45, 0), (47, 0), (49, 0), (51, 0), (125, 0), (66, 8), (115, 18), (71, 0), (132, 0)] h h' → Q (some (.int r)) h') → xw J ov (d + t + 2) 162 (0, [(0, .ref 75), (1, .long w1), (3, .int x3), (4, .int x4)], [], h) Q) := by
  intro t
  induction t with
  | zero =>
    intro Q h w1 x3 x4 T b4 ht kk
    have K : xk [(0, 9), (115, 1), (83, 0), (29, 0), (31, 0), (33, 0), (35, 0), (37, 0), (39, 0), (41, 0), (43, 0), (45, 0), (47, 0), (49, 0), (51, 0), (125, 0), (66, 8), (115, 18), (71, 0), (132, 0)] h h := xk_re T
    have bz : 9 ≤ x4.toInt ∧ x4.toInt ≤ 9 := by omega
    show xw J ov (d + 0 + 2) 162 (0, [(0, .ref 75), (1, .long w1), (3, .int x3), (4, .int x4)], [], h) Q
    have rx3 := xc_rng x3
    refine xi_lload_n (pc' := 1) (x := w1) kc_162_0 rfl rfl ?_
    refine xi_static (mj := 5) (as := [.long w1]) (st1 := []) (lv0 := [(0, .long w1)]) kc_162_1 rfl rfl (Nat.le_of_ble_eq_true rfl) rfl rfl (Nat.le_of_ble_eq_true rfl) (hJ _ _ _ _ (by decide)) (xm_le ml_5 rfl) rfl ?_
    refine mt_5_0 hJ hov1 hov2 (d := d + 0) (w0 := w1) K.1 (fun r1 hh2 K3 => ?_)
    have br1 := xc_rng r1
    have K4 := xk_tr K K3 rfl
    show xw J ov (d + 0 + 2) 162 (4, [(0, .ref 75), (1, .long w1), (3, .int x3), (4, .int x4)], [.int r1], hh2) _
    refine xi_iconst (pc' := 5) (v := 1) kc_162_4 rfl rfl ?_
    by_cases c5 : r1.toInt ≤ 1
    · refine xi_cmt (pc' := 26) kc_162_5 rfl (xc_le_t (X := r1.toInt) (Y := 1) rfl (by decide) (by omega)) ?_
      refine xi_iconst (pc' := 27) (v := 0) kc_162_26 rfl rfl ?_
      refine xi_ireturn kc_162_27 mr_162 rfl ?_
      have zc0 : (0 : Int32).toInt = 0 := by decide
      exact kk 0 hh2 K4
    · refine xi_cmf (pc' := 8) kc_162_5 rfl (xc_le_f (X := r1.toInt) (Y := 1) rfl (by decide) (by omega)) ?_
      refine xi_iload_n (pc' := 9) (x := x3) kc_162_8 rfl rfl ?_
      by_cases c6 : x3.toInt < 0
      · refine xi_ift (pc' := 26) kc_162_9 rfl (xc_lt_t (X := x3.toInt) (Y := 0) rfl (by decide) (by omega)) ?_
        refine xi_iconst (pc' := 27) (v := 0) kc_162_26 rfl rfl ?_
        refine xi_ireturn kc_162_27 mr_162 rfl ?_
        have zc0 : (0 : Int32).toInt = 0 := by decide
        exact kk 0 hh2 K4
      · refine xi_iff (pc' := 12) kc_162_9 rfl (xc_lt_f (X := x3.toInt) (Y := 0) rfl (by decide) (by omega)) ?_
        refine xi_iload_n (pc' := 13) (x := x3) kc_162_12 rfl rfl ?_
        refine xi_sipush (pc' := 16) (v := 6561) kc_162_13 rfl rfl ?_
        by_cases c7 : 6561 ≤ x3.toInt
        · refine xi_cmt (pc' := 26) kc_162_16 rfl (xc_ge_t (X := x3.toInt) (Y := 6561) rfl (by decide) (by omega)) ?_
          refine xi_iconst (pc' := 27) (v := 0) kc_162_26 rfl rfl ?_
          refine xi_ireturn kc_162_27 mr_162 rfl ?_
          have zc0 : (0 : Int32).toInt = 0 := by decide
          exact kk 0 hh2 K4
        · refine xi_cmf (pc' := 19) kc_162_16 rfl (xc_ge_f (X := x3.toInt) (Y := 6561) rfl (by decide) (by omega)) ?_
          refine xi_iload (pc' := 21) (x := x4) kc_162_19 rfl rfl ?_
          refine xi_bipush (pc' := 23) (v := 8) kc_162_21 rfl rfl ?_
          refine xi_cmf (pc' := 26) kc_162_23 rfl (xc_le_f (X := x4.toInt) (Y := 8) rfl (by decide) (by omega)) ?_
          refine xi_iconst (pc' := 27) (v := 0) kc_162_26 rfl rfl ?_
          refine xi_ireturn kc_162_27 mr_162 rfl ?_
          have zc0 : (0 : Int32).toInt = 0 := by decide
          exact kk 0 hh2 K4
  | succ t ih =>
    intro Q h w1 x3 x4 T b4 ht kk
    have hrec := @ih
    rw [show d + (t + 1) + 2 = d + t + 3 by omega]
    have K : xk [(0, 9), (115, 1), (83, 0), (29, 0), (31, 0), (33, 0), (35, 0), (37, 0), (39, 0), (41, 0), (43, 0), (45, 0), (47, 0), (49, 0), (51, 0), (125, 0), (66, 8), (115, 18), (71, 0), (132, 0)] h h := xk_re T
    have rx3 := xc_rng x3
    refine xi_lload_n (pc' := 1) (x := w1) kc_162_0 rfl rfl ?_
    refine xi_static (mj := 5) (as := [.long w1]) (st1 := []) (lv0 := [(0, .long w1)]) kc_162_1 rfl rfl (Nat.le_of_ble_eq_true rfl) rfl rfl (Nat.le_of_ble_eq_true rfl) (hJ _ _ _ _ (by decide)) (xm_le ml_5 rfl) rfl ?_
    refine mt_5_0 hJ hov1 hov2 (d := d + t + 1) (w0 := w1) K.1 (fun r1 hh2 K3 => ?_)
    have br1 := xc_rng r1
    have K4 := xk_tr K K3 rfl
    show xw J ov (d + t + 3) 162 (4, [(0, .ref 75), (1, .long w1), (3, .int x3), (4, .int x4)], [.int r1], hh2) _
    refine xi_iconst (pc' := 5) (v := 1) kc_162_4 rfl rfl ?_
    by_cases c5 : r1.toInt ≤ 1
    · refine xi_cmt (pc' := 26) kc_162_5 rfl (xc_le_t (X := r1.toInt) (Y := 1) rfl (by decide) (by omega)) ?_
      refine xi_iconst (pc' := 27) (v := 0) kc_162_26 rfl rfl ?_
      refine xi_ireturn kc_162_27 mr_162 rfl ?_
      have zc0 : (0 : Int32).toInt = 0 := by decide
      exact kk 0 hh2 K4
    · refine xi_cmf (pc' := 8) kc_162_5 rfl (xc_le_f (X := r1.toInt) (Y := 1) rfl (by decide) (by omega)) ?_
      refine xi_iload_n (pc' := 9) (x := x3) kc_162_8 rfl rfl ?_
      by_cases c6 : x3.toInt < 0
      · refine xi_ift (pc' := 26) kc_162_9 rfl (xc_lt_t (X := x3.toInt) (Y := 0) rfl (by decide) (by omega)) ?_
        refine xi_iconst (pc' := 27) (v := 0) kc_162_26 rfl rfl ?_
        refine xi_ireturn kc_162_27 mr_162 rfl ?_
        have zc0 : (0 : Int32).toInt = 0 := by decide
        exact kk 0 hh2 K4
      · refine xi_iff (pc' := 12) kc_162_9 rfl (xc_lt_f (X := x3.toInt) (Y := 0) rfl (by decide) (by omega)) ?_
        refine xi_iload_n (pc' := 13) (x := x3) kc_162_12 rfl rfl ?_
        refine xi_sipush (pc' := 16) (v := 6561) kc_162_13 rfl rfl ?_
        by_cases c7 : 6561 ≤ x3.toInt
        · refine xi_cmt (pc' := 26) kc_162_16 rfl (xc_ge_t (X := x3.toInt) (Y := 6561) rfl (by decide) (by omega)) ?_
          refine xi_iconst (pc' := 27) (v := 0) kc_162_26 rfl rfl ?_
          refine xi_ireturn kc_162_27 mr_162 rfl ?_
          have zc0 : (0 : Int32).toInt = 0 := by decide
          exact kk 0 hh2 K4
        · refine xi_cmf (pc' := 19) kc_162_16 rfl (xc_ge_f (X := x3.toInt) (Y := 6561) rfl (by decide) (by omega)) ?_
          refine xi_iload (pc' := 21) (x := x4) kc_162_19 rfl rfl ?_
          refine xi_bipush (pc' := 23) (v := 8) kc_162_21 rfl rfl ?_
          by_cases c8 : x4.toInt ≤ 8
          · refine xi_cmt (pc' := 28) kc_162_23 rfl (xc_le_t (X := x4.toInt) (Y := 8) rfl (by decide) (by omega)) ?_
            refine xi_aload_n (pc' := 29) (x := 75) kc_162_28 rfl rfl ?_
            refine xp_75 K4.1 (fun u9 bu9 A10 => ?_)
            refine xi_getfield (pc' := 32) (v := .ref 78) kc_162_29 rfl rfl rfl A10 rfl ?_
            refine xi_iload_n (pc' := 33) (x := x3) kc_162_32 rfl rfl ?_
            refine xcps4 (xk_arr K4.1 xD_78) (fun y11 A11 hy11 ry11 => ?_)
            refine xcps4 (xj_get hy11 ry11 (i := x3) (by omega) (by omega)) (fun v12 ev12 bv12 dv12 => ?_)
            refine xi_iaload (pc' := 34) (v := v12) kc_162_33 rfl A11 (by decide) rfl (xi_in (by omega) (by rw [hy11]; omega)) ev12 ?_
            refine xi_bipush (pc' := 36) (v := (-9)) kc_162_34 rfl rfl ?_
            by_cases c13 : v12.toInt = (-9)
            · refine xi_cmt (pc' := 46) kc_162_36 rfl (xc_eq_t (X := v12.toInt) (Y := (-9)) rfl (by decide) (by omega)) ?_
              refine xi_bipush (pc' := 48) (v := (-9)) kc_162_46 rfl rfl ?_
              refine xi_istore (pc' := 50) (lv' := [(5, .int (-9)), (0, .ref 75), (1, .long w1), (3, .int x3), (4, .int x4)]) kc_162_48 rfl rfl (xm_lt ml_162 rfl) ?_
              refine xi_iconst (pc' := 51) (v := 1) kc_162_50 rfl rfl ?_
              refine xi_istore (pc' := 53) (lv' := [(6, .int 1), (5, .int (-9)), (0, .ref 75), (1, .long w1), (3, .int x3), (4, .int x4)]) kc_162_51 rfl rfl (xm_lt ml_162 rfl) ?_
              refine xi_iconst (pc' := 54) (v := 0) kc_162_53 rfl rfl ?_
              refine xi_istore (pc' := 56) (lv' := [(7, .int 0), (6, .int 1), (5, .int (-9)), (0, .ref 75), (1, .long w1), (3, .int x3), (4, .int x4)]) kc_162_54 rfl rfl (xm_lt ml_162 rfl) ?_
              have zcm9 : ((-9) : Int32).toInt = (-9) := by decide
              have zc0 : (0 : Int32).toInt = 0 := by decide
              have zc1 : (1 : Int32).toInt = 1 := by decide
              refine xw_lv (b := [(0, .ref 75), (1, .long w1), (3, .int x3), (4, .int x4), (5, .int (-9)), (6, .int 1), (7, .int 0)]) (lvS_cons (lvS_cons (lvS_cons (lvS_cons (lvS_cons (lvS_cons (lvS_cons (lvS_nil (show ([7, 6, 5, 0, 1, 3, 4] : List Nat).Nodup by decide)) rfl) rfl) rfl) rfl) rfl) rfl) rfl) ?_
              exact (lp_162_0 hJ hov1 hov2 (d := d) hrec (hb := hh2) (fun r9 h9 K9 => kk r9 h9 (xk_tr K4 K9 rfl)) 9) w1 x3 x4 (-9) 1 0 hh2 (by omega) (by omega) (by omega) (by omega) (xk_re K4.1) (by omega)
            · refine xi_cmf (pc' := 39) kc_162_36 rfl (xc_eq_f (X := v12.toInt) (Y := (-9)) rfl (by decide) (by omega)) ?_
              refine xi_aload_n (pc' := 40) (x := 75) kc_162_39 rfl rfl ?_
              refine xi_getfield (pc' := 43) (v := .ref 78) kc_162_40 rfl rfl rfl A10 rfl ?_
              refine xi_iload_n (pc' := 44) (x := x3) kc_162_43 rfl rfl ?_
              refine xi_iaload (pc' := 45) (v := v12) kc_162_44 rfl A11 (by decide) rfl (xi_in (by omega) (by rw [hy11]; omega)) ev12 ?_
              refine xi_ireturn kc_162_45 mr_162 rfl ?_
              exact kk v12 hh2 K4
          · refine xi_cmf (pc' := 26) kc_162_23 rfl (xc_le_f (X := x4.toInt) (Y := 8) rfl (by decide) (by omega)) ?_
            refine xi_iconst (pc' := 27) (v := 0) kc_162_26 rfl rfl ?_
            refine xi_ireturn kc_162_27 mr_162 rfl ?_
            have zc0 : (0 : Int32).toInt = 0 := by decide
            exact kk 0 hh2 K4
theorem mt_162_0 {J : xe_J} {ov : List (List Int32)} (hJ : ∀ d mj as h, mj ≠ xe_loff → J d mj as h = none) (hov1 : ov[1]? = some [10, 0, 0, 0, 0, 0]) (hov2 : ov[2]? = some [99, 30, 50, 50, 1, 99999]) {d : Nat} {Q : Option Value → xe_H → Prop} {h : xe_H} {w1 : Int64} {x3 : Int32} {x4 : Int32} (T : xt h) (b4 : (0 ≤ x4.toInt ∧ x4.toInt ≤ 9)) (kk : (∀ (r : Int32) (h' : xe_H), xk [(0, 9), (115, 1), (83, 0), (29, 0), (31, 0), (33, 0), (35, 0), (37, 0), (39, 0), (41, 0), (43, 0), (45, 0), (47, 0), (49, 0), (51, 0), (125, 0), (66, 8), (115, 18), (71, 0), (132, 0)] h h' → Q (some (.int r)) h')) : xw J ov (d + 11) 162 (0, [(0, .ref 75), (1, .long w1), (3, .int x3), (4, .int x4)], [], h) Q :=
  mr_162_0 hJ hov1 hov2 9 T b4 (by omega) kk
set_option maxHeartbeats 4000000 in
theorem mt_161_0 {J : xe_J} {ov : List (List Int32)} (hJ : ∀ d mj as h, mj ≠ xe_loff → J d mj as h = none) (hov1 : ov[1]? = some [10, 0, 0, 0, 0, 0]) (hov2 : ov[2]? = some [99, 30, 50, 50, 1, 99999]) {d : Nat} {Q : Option Value → xe_H → Prop} {h : xe_H} {w1 : Int64} (T : xt h) (kk : (∀ (r : Int32) (h' : xe_H), xk [(0, 9), (115, 1), (83, 0), (29, 0), (31, 0), (33, 0), (35, 0), (37, 0), (39, 0), (41, 0), (43, 0), (45, 0), (47, 0), (49, 0), (51, 0), (125, 0), (66, 8), (115, 18), (71, 0), (132, 0)] h h' → Q (some (.int r)) h')) : xw J ov (d + 12) 161 (0, [(0, .ref 75), (1, .long w1)], [], h) Q := by
  have K : xk [(0, 9), (115, 1), (83, 0), (29, 0), (31, 0), (33, 0), (35, 0), (37, 0), (39, 0), (41, 0), (43, 0), (45, 0), (47, 0), (49, 0), (51, 0), (125, 0), (66, 8), (115, 18), (71, 0), (132, 0)] h h := xk_re T
  refine xi_aload_n (pc' := 1) (x := 75) kc_161_0 rfl rfl ?_
  refine xp_75 K.1 (fun u1 bu1 A2 => ?_)
  refine xi_getfield (pc' := 4) (v := .ref 78) kc_161_1 rfl rfl rfl A2 rfl ?_
  refine xi_bipush (pc' := 6) (v := (-9)) kc_161_4 rfl rfl ?_
  refine xi_static (mj := 1) (as := [.ref 78, .int (-9)]) (st1 := []) (lv0 := [(0, .ref 78), (1, .int (-9))]) kc_161_6 rfl rfl (Nat.le_of_ble_eq_true rfl) rfl rfl (Nat.le_of_ble_eq_true rfl) (hJ _ _ _ _ (by decide)) (xm_le ml_1 rfl) rfl ?_
  refine xcps4 (xk_arr K.1 xD_78) (fun y3 A3 hy3 ry3 => ?_)
  refine xl_fill (N := 6561) (by decide) rfl (by decide) hy3 A3 (fun hh5 eh4 => ?_)
  have hy6 : (List.replicate 6561 ((-9) : Int32)).length = 6561 := List.length_replicate
  have ry6 := xj_fill (n := 6561) (v := (-9)) (lo := (-2147483648)) (hi := 2147483647) (by first | omega | decide) (by first | omega | decide)
  have K7 := xk_pa K (xk_wa rfl) xD_78 hy6 ry6 eh4
  show xw J ov (d + 12) 161 (9, [(0, .ref 75), (1, .long w1)], [], hh5) _
  refine xi_aload_n (pc' := 10) (x := 75) kc_161_9 rfl rfl ?_
  refine xi_lload_n (pc' := 11) (x := w1) kc_161_10 rfl rfl ?_
  refine xi_iconst (pc' := 12) (v := 0) kc_161_11 rfl rfl ?_
  refine xi_iconst (pc' := 13) (v := 0) kc_161_12 rfl rfl ?_
  have A8 := ((eh4.2.1 75 (by decide)).trans A2)
  refine xi_virtual (mj := 162) (as := [.long w1, .int 0, .int 0]) (st1 := []) (lv0 := [(0, .ref 75), (1, .long w1), (3, .int 0), (4, .int 0)]) kc_161_13 rfl rfl rfl rfl rfl A8 (Nat.le_of_ble_eq_true rfl) (hJ _ _ _ _ (by decide)) (xm_le ml_162 rfl) rfl ?_
  have zc0 : (0 : Int32).toInt = 0 := by decide
  refine mt_162_0 hJ hov1 hov2 (d := d) (w1 := w1) (x3 := 0) (x4 := 0) K7.1 (by first | omega | decide) (fun r9 hh10 K11 => ?_)
  have br9 := xc_rng r9
  have K12 := xk_tr K7 K11 rfl
  show xw J ov (d + 12) 161 (16, [(0, .ref 75), (1, .long w1)], [.int r9], hh10) _
  refine xi_ireturn kc_161_16 mr_161 rfl ?_
  exact kk r9 hh10 K12
set_option maxHeartbeats 4000000 in
theorem mt_160_0 {J : xe_J} {ov : List (List Int32)} (hJ : ∀ d mj as h, mj ≠ xe_loff → J d mj as h = none) (hov1 : ov[1]? = some [10, 0, 0, 0, 0, 0]) (hov2 : ov[2]? = some [99, 30, 50, 50, 1, 99999]) {d : Nat} {Q : Option Value → xe_H → Prop} {h : xe_H} (T : xt h) (kk : (∀ (r : Int32) (h' : xe_H), xk [(0, 9), (115, 1), (83, 0), (29, 0), (31, 0), (33, 0), (35, 0), (37, 0), (39, 0), (41, 0), (43, 0), (45, 0), (47, 0), (49, 0), (51, 0), (125, 0), (66, 8), (115, 18), (71, 0), (132, 0)] h h' → Q (some (.int r)) h')) : xw J ov (d + 13) 160 (0, [(0, .ref 0)], [], h) Q := by
  have K : xk [(0, 9), (115, 1), (83, 0), (29, 0), (31, 0), (33, 0), (35, 0), (37, 0), (39, 0), (41, 0), (43, 0), (45, 0), (47, 0), (49, 0), (51, 0), (125, 0), (66, 8), (115, 18), (71, 0), (132, 0)] h h := xk_re T
  refine xi_aload_n (pc' := 1) (x := 0) kc_160_0 rfl rfl ?_
  refine xp_0 K.1 (fun u1 u2 bu1 bu2 A3 => ?_)
  refine xi_getfield (pc' := 4) (v := .ref 75) kc_160_1 rfl rfl rfl A3 rfl ?_
  refine xi_aload_n (pc' := 5) (x := 0) kc_160_4 rfl rfl ?_
  refine xi_virtual (mj := 152) (as := []) (st1 := [.ref 75]) (lv0 := [(0, .ref 0)]) kc_160_5 rfl rfl rfl rfl rfl A3 (Nat.le_of_ble_eq_true rfl) (hJ _ _ _ _ (by decide)) (xm_le ml_152 rfl) rfl ?_
  refine mt_152_0 hJ hov1 hov2 (d := d + 5)  K.1 (fun r4 hh5 K6 => ?_)
  have K7 := xk_tr K K6 rfl
  refine xp_0 K7.1 (fun u8 u9 bu8 bu9 A10 => ?_)
  have e11 : u2 = u9 := xk_eqi (q := 9) K6 rfl A3 A10 rfl rfl
  subst e11
  show xw J ov (d + 13) 160 (8, [(0, .ref 0)], [.long r4, .ref 75], hh5) _
  refine xp_75 K7.1 (fun u12 bu12 A13 => ?_)
  refine xi_virtual (mj := 161) (as := [.long r4]) (st1 := []) (lv0 := [(0, .ref 75), (1, .long r4)]) kc_160_8 rfl rfl rfl rfl rfl A13 (Nat.le_of_ble_eq_true rfl) (hJ _ _ _ _ (by decide)) (xm_le ml_161 rfl) rfl ?_
  refine mt_161_0 hJ hov1 hov2 (d := d) (w1 := r4) K7.1 (fun r14 hh15 K16 => ?_)
  have br14 := xc_rng r14
  have K17 := xk_tr K7 K16 rfl
  refine xp_0 K17.1 (fun u18 u19 bu18 bu19 A20 => ?_)
  have e21 : u2 = u19 := xk_eqi (q := 9) K16 rfl A10 A20 rfl rfl
  subst e21
  show xw J ov (d + 13) 160 (11, [(0, .ref 0)], [.int r14], hh15) _
  refine xi_ireturn kc_160_11 mr_160 rfl ?_
  exact kk r14 hh15 K17
set_option maxHeartbeats 4000000 in
theorem lp_164_0 {J : xe_J} {ov : List (List Int32)} (hJ : ∀ d mj as h, mj ≠ xe_loff → J d mj as h = none) (hov1 : ov[1]? = some [10, 0, 0, 0, 0, 0]) (hov2 : ov[2]? = some [99, 30, 50, 50, 1, 99999]) {d : Nat} {Q : Option Value → xe_H → Prop} {hb : xe_H} (kk : (∀ (r : Int32) (h' : xe_H), (0 ≤ r.toInt ∧ r.toInt ≤ 1) → xk [(0, 9), (115, 1), (83, 0), (29, 0), (31, 0), (33, 0), (35, 0), (37, 0), (39, 0), (41, 0), (43, 0), (45, 0), (47, 0), (49, 0), (51, 0), (125, 0), (66, 8), (115, 18), (71, 0), (132, 0)] hb h' → Q (some (.int r)) h')) : ∀ m : Nat, (∀ (x1 : Int32) (x2 : Int32) (x3 : Int32) (x4 : Int32) (h : xe_H), (0 ≤ x1.toInt ∧ x1.toInt ≤ 5) → (0 ≤ x4.toInt ∧ x4.toInt ≤ 20) → xk [(0, 9), (115, 1), (83, 0), (29, 0), (31, 0), (33, 0), (35, 0), (37, 0), (39, 0), (41, 0), (43, 0), (45, 0), (47, 0), (49, 0), (51, 0), (125, 0), (66, 8), (115, 18), (71, 0), (132, 0)] hb h → (-1) * x4.toInt + 20 < (m : Int) → xw J ov (d + 1) 164 (3, [(0, .ref 0), (1, .int x1), (2, .int x2), (3, .int x3), (4, .int x4)], [], h) Q) := by
  intro m
  induction m with
  | zero =>
    intro x1 x2 x3 x4 h b1 b4 K hm; have rx2 := xc_rng x2; have rx3 := xc_rng x3; exfalso; omega
  | succ m ih =>
    have i0 := ih
    intro x1 x2 x3 x4 h b1 b4 K hm
    have rx2 := xc_rng x2
    have rx3 := xc_rng x3
    refine xi_iload (pc' := 5) (x := x4) kc_164_3 rfl rfl ?_
    refine xi_aload_n (pc' := 6) (x := 0) kc_164_5 rfl rfl ?_
    refine xp_0 K.1 (fun u1 u2 bu1 bu2 A3 => ?_)
    refine xi_getfield (pc' := 9) (v := .int u1) kc_164_6 rfl rfl rfl A3 rfl ?_
    by_cases c4 : u1.toInt ≤ x4.toInt
    · refine xi_cmt (pc' := 68) kc_164_9 rfl (xc_ge_t (X := x4.toInt) (Y := u1.toInt) rfl rfl (by omega)) ?_
      refine xi_iconst (pc' := 69) (v := 0) kc_164_68 rfl rfl ?_
      refine xi_ireturn kc_164_69 mr_164 rfl ?_
      have zc0 : (0 : Int32).toInt = 0 := by decide
      exact kk 0 h (by omega) K
    · refine xi_cmf (pc' := 12) kc_164_9 rfl (xc_ge_f (X := x4.toInt) (Y := u1.toInt) rfl rfl (by omega)) ?_
      refine xi_iload (pc' := 14) (x := x4) kc_164_12 rfl rfl ?_
      refine xi_bipush (pc' := 16) (v := 20) kc_164_14 rfl rfl ?_
      refine xi_cmf (pc' := 19) kc_164_16 rfl (xc_ge_f (X := x4.toInt) (Y := 20) rfl (by decide) (by omega)) ?_
      refine xi_aload_n (pc' := 20) (x := 0) kc_164_19 rfl rfl ?_
      refine xi_getfield (pc' := 23) (v := .ref 93) kc_164_20 rfl rfl rfl A3 rfl ?_
      refine xi_iload (pc' := 25) (x := x4) kc_164_23 rfl rfl ?_
      have A5 := xk_ex K.1 xD_93
      obtain ⟨pt6, ept6, mpt6⟩ := xR_93 (i := x4) (by omega) (by omega)
      refine xj_aaload (pc' := 26) (b := pt6) kc_164_25 rfl A5 rfl (xi_in (n := 20) (by omega) (by omega)) ept6 ?_
      refine xi_astore (pc' := 28) (lv' := [(5, .ref pt6), (0, .ref 0), (1, .int x1), (2, .int x2), (3, .int x3), (4, .int x4)]) kc_164_26 rfl rfl (xm_lt ml_164 rfl) ?_
      refine xi_iload_n (pc' := 29) (x := x2) kc_164_28 rfl rfl ?_
      refine xi_iload_n (pc' := 30) (x := x3) kc_164_29 rfl rfl ?_
      by_cases c7 : x3.toInt ≤ x2.toInt
      · refine xi_cmt (pc' := 62) kc_164_30 rfl (xc_ge_t (X := x2.toInt) (Y := x3.toInt) rfl rfl (by omega)) ?_
        refine xcps2 (α := Int32) (x4 + 1) (fun v8 ev8 => ?_)
        have zv8 : v8.toInt = (x4.toInt + 1) := by rw [← ev8]; exact (xz_add (X := x4.toInt) (Y := 1) rfl (by decide) (by omega) (by omega)).trans (by omega)
        refine xi_iinc (pc' := 65) (x := x4) (v := v8) (lv' := [(4, .int v8), (5, .ref pt6), (0, .ref 0), (1, .int x1), (2, .int x2), (3, .int x3)]) kc_164_62 rfl rfl ev8 rfl (xm_lt ml_164 rfl) ?_
        refine xi_goto (pc' := 3) kc_164_65 rfl ?_
        refine xw_lv (b := [(0, .ref 0), (1, .int x1), (2, .int x2), (3, .int x3), (4, .int v8)]) (lvS_cons (lvS_cons (lvS_cons (lvS_cons (lvS_cons (lvS_nil (show ([4, 5, 0, 1, 2, 3] : List Nat).Nodup by decide)) rfl) rfl) rfl) rfl) rfl) ?_
        exact i0 x1 x2 x3 v8 h (by omega) (by omega) K (by omega)
      · refine xi_cmf (pc' := 33) kc_164_30 rfl (xc_ge_f (X := x2.toInt) (Y := x3.toInt) rfl rfl (by omega)) ?_
        refine xi_aload (pc' := 35) (x := pt6) kc_164_33 rfl rfl ?_
        obtain ⟨u9, u10, u11, u12, u13, u14, bu9, bu10, bu11, bu12, bu13, bu14, A15⟩ := xg_trial K.1 mpt6
        refine xi_getfield (pc' := 38) (v := .int u9) kc_164_35 rfl rfl rfl A15 rfl ?_
        refine xi_iload_n (pc' := 39) (x := x1) kc_164_38 rfl rfl ?_
        by_cases c16 : u9.toInt = x1.toInt
        · refine xi_cmf (pc' := 42) kc_164_39 rfl (xc_ne_f (X := u9.toInt) (Y := x1.toInt) rfl rfl (by omega)) ?_
          refine xi_iload_n (pc' := 43) (x := x2) kc_164_42 rfl rfl ?_
          refine xi_aload (pc' := 45) (x := pt6) kc_164_43 rfl rfl ?_
          refine xi_getfield (pc' := 48) (v := .int u13) kc_164_45 rfl rfl rfl A15 rfl ?_
          by_cases c17 : u13.toInt ≤ x2.toInt
          · refine xi_cmt (pc' := 62) kc_164_48 rfl (xc_ge_t (X := x2.toInt) (Y := u13.toInt) rfl rfl (by omega)) ?_
            refine xcps2 (α := Int32) (x4 + 1) (fun v18 ev18 => ?_)
            have zv18 : v18.toInt = (x4.toInt + 1) := by rw [← ev18]; exact (xz_add (X := x4.toInt) (Y := 1) rfl (by decide) (by omega) (by omega)).trans (by omega)
            refine xi_iinc (pc' := 65) (x := x4) (v := v18) (lv' := [(4, .int v18), (5, .ref pt6), (0, .ref 0), (1, .int x1), (2, .int x2), (3, .int x3)]) kc_164_62 rfl rfl ev18 rfl (xm_lt ml_164 rfl) ?_
            refine xi_goto (pc' := 3) kc_164_65 rfl ?_
            refine xw_lv (b := [(0, .ref 0), (1, .int x1), (2, .int x2), (3, .int x3), (4, .int v18)]) (lvS_cons (lvS_cons (lvS_cons (lvS_cons (lvS_cons (lvS_nil (show ([4, 5, 0, 1, 2, 3] : List Nat).Nodup by decide)) rfl) rfl) rfl) rfl) rfl) ?_
            exact i0 x1 x2 x3 v18 h (by omega) (by omega) K (by omega)
          · refine xi_cmf (pc' := 51) kc_164_48 rfl (xc_ge_f (X := x2.toInt) (Y := u13.toInt) rfl rfl (by omega)) ?_
            refine xi_aload (pc' := 53) (x := pt6) kc_164_51 rfl rfl ?_
            refine xi_getfield (pc' := 56) (v := .int u12) kc_164_53 rfl rfl rfl A15 rfl ?_
            refine xi_iload_n (pc' := 57) (x := x3) kc_164_56 rfl rfl ?_
            by_cases c19 : x3.toInt ≤ u12.toInt
            · refine xi_cmt (pc' := 62) kc_164_57 rfl (xc_ge_t (X := u12.toInt) (Y := x3.toInt) rfl rfl (by omega)) ?_
              refine xcps2 (α := Int32) (x4 + 1) (fun v20 ev20 => ?_)
              have zv20 : v20.toInt = (x4.toInt + 1) := by rw [← ev20]; exact (xz_add (X := x4.toInt) (Y := 1) rfl (by decide) (by omega) (by omega)).trans (by omega)
              refine xi_iinc (pc' := 65) (x := x4) (v := v20) (lv' := [(4, .int v20), (5, .ref pt6), (0, .ref 0), (1, .int x1), (2, .int x2), (3, .int x3)]) kc_164_62 rfl rfl ev20 rfl (xm_lt ml_164 rfl) ?_
              refine xi_goto (pc' := 3) kc_164_65 rfl ?_
              refine xw_lv (b := [(0, .ref 0), (1, .int x1), (2, .int x2), (3, .int x3), (4, .int v20)]) (lvS_cons (lvS_cons (lvS_cons (lvS_cons (lvS_cons (lvS_nil (show ([4, 5, 0, 1, 2, 3] : List Nat).Nodup by decide)) rfl) rfl) rfl) rfl) rfl) ?_
              exact i0 x1 x2 x3 v20 h (by omega) (by omega) K (by omega)
            · refine xi_cmf (pc' := 60) kc_164_57 rfl (xc_ge_f (X := u12.toInt) (Y := x3.toInt) rfl rfl (by omega)) ?_
              refine xi_iconst (pc' := 61) (v := 1) kc_164_60 rfl rfl ?_
              refine xi_ireturn kc_164_61 mr_164 rfl ?_
              have zc1 : (1 : Int32).toInt = 1 := by decide
              exact kk 1 h (by omega) K
        · refine xi_cmt (pc' := 62) kc_164_39 rfl (xc_ne_t (X := u9.toInt) (Y := x1.toInt) rfl rfl (by omega)) ?_
          refine xcps2 (α := Int32) (x4 + 1) (fun v21 ev21 => ?_)
          have zv21 : v21.toInt = (x4.toInt + 1) := by rw [← ev21]; exact (xz_add (X := x4.toInt) (Y := 1) rfl (by decide) (by omega) (by omega)).trans (by omega)
          refine xi_iinc (pc' := 65) (x := x4) (v := v21) (lv' := [(4, .int v21), (5, .ref pt6), (0, .ref 0), (1, .int x1), (2, .int x2), (3, .int x3)]) kc_164_62 rfl rfl ev21 rfl (xm_lt ml_164 rfl) ?_
          refine xi_goto (pc' := 3) kc_164_65 rfl ?_
          refine xw_lv (b := [(0, .ref 0), (1, .int x1), (2, .int x2), (3, .int x3), (4, .int v21)]) (lvS_cons (lvS_cons (lvS_cons (lvS_cons (lvS_cons (lvS_nil (show ([4, 5, 0, 1, 2, 3] : List Nat).Nodup by decide)) rfl) rfl) rfl) rfl) rfl) ?_
          exact i0 x1 x2 x3 v21 h (by omega) (by omega) K (by omega)
set_option maxHeartbeats 4000000 in
theorem mt_164_0 {J : xe_J} {ov : List (List Int32)} (hJ : ∀ d mj as h, mj ≠ xe_loff → J d mj as h = none) (hov1 : ov[1]? = some [10, 0, 0, 0, 0, 0]) (hov2 : ov[2]? = some [99, 30, 50, 50, 1, 99999]) {d : Nat} {Q : Option Value → xe_H → Prop} {h : xe_H} {x1 : Int32} {x2 : Int32} {x3 : Int32} (T : xt h) (b1 : (0 ≤ x1.toInt ∧ x1.toInt ≤ 5)) (kk : (∀ (r : Int32) (h' : xe_H), (0 ≤ r.toInt ∧ r.toInt ≤ 1) → xk [(0, 9), (115, 1), (83, 0), (29, 0), (31, 0), (33, 0), (35, 0), (37, 0), (39, 0), (41, 0), (43, 0), (45, 0), (47, 0), (49, 0), (51, 0), (125, 0), (66, 8), (115, 18), (71, 0), (132, 0)] h h' → Q (some (.int r)) h')) : xw J ov (d + 1) 164 (0, [(0, .ref 0), (1, .int x1), (2, .int x2), (3, .int x3)], [], h) Q := by
  have K : xk [(0, 9), (115, 1), (83, 0), (29, 0), (31, 0), (33, 0), (35, 0), (37, 0), (39, 0), (41, 0), (43, 0), (45, 0), (47, 0), (49, 0), (51, 0), (125, 0), (66, 8), (115, 18), (71, 0), (132, 0)] h h := xk_re T
  have rx2 := xc_rng x2
  have rx3 := xc_rng x3
  refine xi_iconst (pc' := 1) (v := 0) kc_164_0 rfl rfl ?_
  refine xi_istore (pc' := 3) (lv' := [(4, .int 0), (0, .ref 0), (1, .int x1), (2, .int x2), (3, .int x3)]) kc_164_1 rfl rfl (xm_lt ml_164 rfl) ?_
  have zc0 : (0 : Int32).toInt = 0 := by decide
  refine xw_lv (b := [(0, .ref 0), (1, .int x1), (2, .int x2), (3, .int x3), (4, .int 0)]) (lvS_cons (lvS_cons (lvS_cons (lvS_cons (lvS_cons (lvS_nil (show ([4, 0, 1, 2, 3] : List Nat).Nodup by decide)) rfl) rfl) rfl) rfl) rfl) ?_
  exact (lp_164_0 hJ hov1 hov2 (d := d) (hb := h) (fun r9 h9 b9 K9 => kk r9 h9 b9 (xk_tr K K9 rfl)) 21) x1 x2 x3 0 h (by omega) (by omega) (xk_re K.1) (by omega)
set_option maxHeartbeats 4000000 in
theorem mt_163_0 {J : xe_J} {ov : List (List Int32)} (hJ : ∀ d mj as h, mj ≠ xe_loff → J d mj as h = none) (hov1 : ov[1]? = some [10, 0, 0, 0, 0, 0]) (hov2 : ov[2]? = some [99, 30, 50, 50, 1, 99999]) {d : Nat} {Q : Option Value → xe_H → Prop} {h : xe_H} {x1 : Int32} {x2 : Int32} {x3 : Int32} {x4 : Int32} {x5 : Int32} (T : xt h) (kk : (∀ (r : Int32) (h' : xe_H), ((-6) ≤ r.toInt ∧ r.toInt ≤ 19) → xk [(0, 9), (115, 1), (83, 0), (29, 0), (31, 0), (33, 0), (35, 0), (37, 0), (39, 0), (41, 0), (43, 0), (45, 0), (47, 0), (49, 0), (51, 0), (125, 0), (66, 8), (115, 18), (71, 0), (132, 0)] h h' → Q (some (.int r)) h')) : xw J ov (d + 2) 163 (0, [(0, .ref 0), (1, .int x1), (2, .int x2), (3, .int x3), (4, .int x4), (5, .int x5)], [], h) Q := by
  have K : xk [(0, 9), (115, 1), (83, 0), (29, 0), (31, 0), (33, 0), (35, 0), (37, 0), (39, 0), (41, 0), (43, 0), (45, 0), (47, 0), (49, 0), (51, 0), (125, 0), (66, 8), (115, 18), (71, 0), (132, 0)] h h := xk_re T
  have rx1 := xc_rng x1
  have rx2 := xc_rng x2
  have rx3 := xc_rng x3
  have rx4 := xc_rng x4
  have rx5 := xc_rng x5
  refine xi_iload_n (pc' := 1) (x := x1) kc_163_0 rfl rfl ?_
  refine xi_static (mj := 89) (as := [.int x1]) (st1 := []) (lv0 := [(0, .int x1)]) kc_163_1 rfl rfl (Nat.le_of_ble_eq_true rfl) rfl rfl (Nat.le_of_ble_eq_true rfl) (hJ _ _ _ _ (by decide)) (xm_le ml_89 rfl) rfl ?_
  refine xi_iload_n (pc' := 1) (x := x1) kc_89_0 rfl rfl ?_
  by_cases c1 : x1.toInt < 0
  · refine xi_ift (pc' := 14) kc_89_1 rfl (xc_lt_t (X := x1.toInt) (Y := 0) rfl (by decide) (by omega)) ?_
    refine xi_iconst (pc' := 15) (v := 0) kc_89_14 rfl rfl ?_
    refine xi_ireturn kc_89_15 mr_89 rfl ?_
    show xw J ov (d + 2) 163 (4, [(0, .ref 0), (1, .int x1), (2, .int x2), (3, .int x3), (4, .int x4), (5, .int x5)], [.int 0], h) _
    refine xi_iff (pc' := 7) kc_163_4 rfl rfl ?_
    refine xi_aload_n (pc' := 8) (x := 0) kc_163_7 rfl rfl ?_
    refine xi_iconst (pc' := 9) (v := (-1)) kc_163_8 rfl rfl ?_
    refine xp_0 K.1 (fun u2 u3 bu2 bu3 A4 => ?_)
    refine xi_virtual (mj := 90) (as := [.int (-1)]) (st1 := []) (lv0 := [(0, .ref 0), (1, .int (-1))]) kc_163_9 rfl rfl rfl rfl rfl A4 (Nat.le_of_ble_eq_true rfl) (hJ _ _ _ _ (by decide)) (xm_le ml_90 rfl) rfl ?_
    refine xi_iload_n (pc' := 1) (x := (-1)) kc_90_0 rfl rfl ?_
    refine xi_ineg (pc' := 2) (v := 1) kc_90_1 rfl rfl ?_
    refine xi_istore_n (pc' := 3) (lv' := [(2, .int 1), (0, .ref 0), (1, .int (-1))]) kc_90_2 rfl rfl (xm_lt ml_90 rfl) ?_
    refine xi_iload_n (pc' := 4) (x := 1) kc_90_3 rfl rfl ?_
    refine xi_iff (pc' := 7) kc_90_4 rfl rfl ?_
    refine xi_iload_n (pc' := 8) (x := 1) kc_90_7 rfl rfl ?_
    refine xi_aload_n (pc' := 9) (x := 0) kc_90_8 rfl rfl ?_
    refine xi_getfield (pc' := 12) (v := .ref 94) kc_90_9 rfl rfl rfl A4 rfl ?_
    refine xcps4 (xk_arr K.1 xD_94) (fun y5 A5 hy5 ry5 => ?_)
    refine xi_arraylength (pc' := 13) (n := 7) (v := 7) kc_90_12 rfl (xl_lenI (by decide) (by decide) A5 hy5) rfl ?_
    refine xi_cmf (pc' := 16) kc_90_13 rfl rfl ?_
    refine xi_aload_n (pc' := 17) (x := 0) kc_90_16 rfl rfl ?_
    refine xi_getfield (pc' := 20) (v := .ref 94) kc_90_17 rfl rfl rfl A4 rfl ?_
    refine xi_iload_n (pc' := 21) (x := 1) kc_90_20 rfl rfl ?_
    refine xi_dup2 (pc' := 22) kc_90_21 rfl ⟨rfl, rfl⟩ ?_
    refine xcps4 (xj_get hy5 ry5 (i := 1) (by decide) (by decide)) (fun v6 ev6 bv6 dv6 => ?_)
    refine xi_iaload (pc' := 23) (v := v6) kc_90_22 rfl A5 (by decide) rfl (xi_in (by decide) (by rw [hy5]; decide)) ev6 ?_
    refine xi_iconst (pc' := 24) (v := 1) kc_90_23 rfl rfl ?_
    refine xcps2 (α := Int32) ((v6 : Int32) + 1) (fun v7 ev7 => ?_)
    have rv7 := xc_rng v7
    refine xi_iadd (pc' := 25) (v := v7) kc_90_24 rfl ev7 ?_
    refine xcps4 (xj_set (v := v7) hy5 ry5 1 (by first | omega | decide) (by first | omega | decide)) (fun y8 s8 hy8 ry8 => ?_)
    refine xi_iastore (pc' := 26) (x' := y8) kc_90_25 rfl A5 rfl (xi_in (by decide) (by rw [hy5]; decide)) s8 (fun hh8 eh8 => ?_)
    have K9 := xk_pa K (xk_wa rfl) xD_94 hy8 ry8 eh8
    refine xi_iload_n (pc' := 27) (x := (-1)) kc_90_26 rfl rfl ?_
    refine xi_ireturn kc_90_27 mr_90 rfl ?_
    show xw J ov (d + 2) 163 (12, [(0, .ref 0), (1, .int x1), (2, .int x2), (3, .int x3), (4, .int x4), (5, .int x5)], [.int (-1)], hh8) _
    refine xi_ireturn kc_163_12 mr_163 rfl ?_
    have zcm1 : ((-1) : Int32).toInt = (-1) := by decide
    exact kk (-1) hh8 (by omega) K9
  · refine xi_iff (pc' := 4) kc_89_1 rfl (xc_lt_f (X := x1.toInt) (Y := 0) rfl (by decide) (by omega)) ?_
    refine xi_iload_n (pc' := 5) (x := x1) kc_89_4 rfl rfl ?_
    refine xi_bipush (pc' := 7) (v := 6) kc_89_5 rfl rfl ?_
    by_cases c10 : 6 ≤ x1.toInt
    · refine xi_cmt (pc' := 14) kc_89_7 rfl (xc_ge_t (X := x1.toInt) (Y := 6) rfl (by decide) (by omega)) ?_
      refine xi_iconst (pc' := 15) (v := 0) kc_89_14 rfl rfl ?_
      refine xi_ireturn kc_89_15 mr_89 rfl ?_
      show xw J ov (d + 2) 163 (4, [(0, .ref 0), (1, .int x1), (2, .int x2), (3, .int x3), (4, .int x4), (5, .int x5)], [.int 0], h) _
      refine xi_iff (pc' := 7) kc_163_4 rfl rfl ?_
      refine xi_aload_n (pc' := 8) (x := 0) kc_163_7 rfl rfl ?_
      refine xi_iconst (pc' := 9) (v := (-1)) kc_163_8 rfl rfl ?_
      refine xp_0 K.1 (fun u11 u12 bu11 bu12 A13 => ?_)
      refine xi_virtual (mj := 90) (as := [.int (-1)]) (st1 := []) (lv0 := [(0, .ref 0), (1, .int (-1))]) kc_163_9 rfl rfl rfl rfl rfl A13 (Nat.le_of_ble_eq_true rfl) (hJ _ _ _ _ (by decide)) (xm_le ml_90 rfl) rfl ?_
      refine xi_iload_n (pc' := 1) (x := (-1)) kc_90_0 rfl rfl ?_
      refine xi_ineg (pc' := 2) (v := 1) kc_90_1 rfl rfl ?_
      refine xi_istore_n (pc' := 3) (lv' := [(2, .int 1), (0, .ref 0), (1, .int (-1))]) kc_90_2 rfl rfl (xm_lt ml_90 rfl) ?_
      refine xi_iload_n (pc' := 4) (x := 1) kc_90_3 rfl rfl ?_
      refine xi_iff (pc' := 7) kc_90_4 rfl rfl ?_
      refine xi_iload_n (pc' := 8) (x := 1) kc_90_7 rfl rfl ?_
      refine xi_aload_n (pc' := 9) (x := 0) kc_90_8 rfl rfl ?_
      refine xi_getfield (pc' := 12) (v := .ref 94) kc_90_9 rfl rfl rfl A13 rfl ?_
      refine xcps4 (xk_arr K.1 xD_94) (fun y14 A14 hy14 ry14 => ?_)
      refine xi_arraylength (pc' := 13) (n := 7) (v := 7) kc_90_12 rfl (xl_lenI (by decide) (by decide) A14 hy14) rfl ?_
      refine xi_cmf (pc' := 16) kc_90_13 rfl rfl ?_
      refine xi_aload_n (pc' := 17) (x := 0) kc_90_16 rfl rfl ?_
      refine xi_getfield (pc' := 20) (v := .ref 94) kc_90_17 rfl rfl rfl A13 rfl ?_
      refine xi_iload_n (pc' := 21) (x := 1) kc_90_20 rfl rfl ?_
      refine xi_dup2 (pc' := 22) kc_90_21 rfl ⟨rfl, rfl⟩ ?_
      refine xcps4 (xj_get hy14 ry14 (i := 1) (by decide) (by decide)) (fun v15 ev15 bv15 dv15 => ?_)
      refine xi_iaload (pc' := 23) (v := v15) kc_90_22 rfl A14 (by decide) rfl (xi_in (by decide) (by rw [hy14]; decide)) ev15 ?_
      refine xi_iconst (pc' := 24) (v := 1) kc_90_23 rfl rfl ?_
      refine xcps2 (α := Int32) ((v15 : Int32) + 1) (fun v16 ev16 => ?_)
      have rv16 := xc_rng v16
      refine xi_iadd (pc' := 25) (v := v16) kc_90_24 rfl ev16 ?_
      refine xcps4 (xj_set (v := v16) hy14 ry14 1 (by first | omega | decide) (by first | omega | decide)) (fun y17 s17 hy17 ry17 => ?_)
      refine xi_iastore (pc' := 26) (x' := y17) kc_90_25 rfl A14 rfl (xi_in (by decide) (by rw [hy14]; decide)) s17 (fun hh17 eh17 => ?_)
      have K18 := xk_pa K (xk_wa rfl) xD_94 hy17 ry17 eh17
      refine xi_iload_n (pc' := 27) (x := (-1)) kc_90_26 rfl rfl ?_
      refine xi_ireturn kc_90_27 mr_90 rfl ?_
      show xw J ov (d + 2) 163 (12, [(0, .ref 0), (1, .int x1), (2, .int x2), (3, .int x3), (4, .int x4), (5, .int x5)], [.int (-1)], hh17) _
      refine xi_ireturn kc_163_12 mr_163 rfl ?_
      have zcm1 : ((-1) : Int32).toInt = (-1) := by decide
      exact kk (-1) hh17 (by omega) K18
    · refine xi_cmf (pc' := 10) kc_89_7 rfl (xc_ge_f (X := x1.toInt) (Y := 6) rfl (by decide) (by omega)) ?_
      refine xi_iconst (pc' := 11) (v := 1) kc_89_10 rfl rfl ?_
      refine xi_goto (pc' := 15) kc_89_11 rfl ?_
      refine xi_ireturn kc_89_15 mr_89 rfl ?_
      show xw J ov (d + 2) 163 (4, [(0, .ref 0), (1, .int x1), (2, .int x2), (3, .int x3), (4, .int x4), (5, .int x5)], [.int 1], h) _
      refine xi_ift (pc' := 13) kc_163_4 rfl rfl ?_
      refine xi_iload_n (pc' := 14) (x := x2) kc_163_13 rfl rfl ?_
      by_cases c19 : x2.toInt = 0
      · refine xi_ift (pc' := 29) kc_163_14 rfl (xc_eq_t (X := x2.toInt) (Y := 0) rfl (by decide) (by omega)) ?_
        refine xi_aload_n (pc' := 30) (x := 0) kc_163_29 rfl rfl ?_
        refine xi_iload_n (pc' := 31) (x := x1) kc_163_30 rfl rfl ?_
        refine xi_iload (pc' := 33) (x := x4) kc_163_31 rfl rfl ?_
        refine xi_iload (pc' := 35) (x := x5) kc_163_33 rfl rfl ?_
        refine xp_0 K.1 (fun u20 u21 bu20 bu21 A22 => ?_)
        refine xi_virtual (mj := 164) (as := [.int x1, .int x4, .int x5]) (st1 := []) (lv0 := [(0, .ref 0), (1, .int x1), (2, .int x4), (3, .int x5)]) kc_163_35 rfl rfl rfl rfl rfl A22 (Nat.le_of_ble_eq_true rfl) (hJ _ _ _ _ (by decide)) (xm_le ml_164 rfl) rfl ?_
        refine mt_164_0 hJ hov1 hov2 (d := d) (x1 := x1) (x2 := x4) (x3 := x5) K.1 (by first | omega | decide) (fun r23 hh24 br23 K25 => ?_)
        have K26 := xk_tr K K25 rfl
        refine xp_0 K26.1 (fun u27 u28 bu27 bu28 A29 => ?_)
        have e30 : u21 = u28 := xk_eqi (q := 9) K25 rfl A22 A29 rfl rfl
        subst e30
        show xw J ov (d + 2) 163 (38, [(0, .ref 0), (1, .int x1), (2, .int x2), (3, .int x3), (4, .int x4), (5, .int x5)], [.int r23], hh24) _
        by_cases c31 : r23.toInt = 0
        · refine xi_ift (pc' := 48) kc_163_38 rfl (xc_eq_t (X := r23.toInt) (Y := 0) rfl (by decide) (by omega)) ?_
          refine xi_iload_n (pc' := 49) (x := x3) kc_163_48 rfl rfl ?_
          by_cases c32 : x3.toInt < 0
          · refine xi_ift (pc' := 68) kc_163_49 rfl (xc_lt_t (X := x3.toInt) (Y := 0) rfl (by decide) (by omega)) ?_
            refine xi_aload_n (pc' := 69) (x := 0) kc_163_68 rfl rfl ?_
            refine xi_bipush (pc' := 71) (v := (-4)) kc_163_69 rfl rfl ?_
            refine xi_virtual (mj := 90) (as := [.int (-4)]) (st1 := []) (lv0 := [(0, .ref 0), (1, .int (-4))]) kc_163_71 rfl rfl rfl rfl rfl A29 (Nat.le_of_ble_eq_true rfl) (hJ _ _ _ _ (by decide)) (xm_le ml_90 rfl) rfl ?_
            refine xi_iload_n (pc' := 1) (x := (-4)) kc_90_0 rfl rfl ?_
            refine xi_ineg (pc' := 2) (v := 4) kc_90_1 rfl rfl ?_
            refine xi_istore_n (pc' := 3) (lv' := [(2, .int 4), (0, .ref 0), (1, .int (-4))]) kc_90_2 rfl rfl (xm_lt ml_90 rfl) ?_
            refine xi_iload_n (pc' := 4) (x := 4) kc_90_3 rfl rfl ?_
            refine xi_iff (pc' := 7) kc_90_4 rfl rfl ?_
            refine xi_iload_n (pc' := 8) (x := 4) kc_90_7 rfl rfl ?_
            refine xi_aload_n (pc' := 9) (x := 0) kc_90_8 rfl rfl ?_
            refine xi_getfield (pc' := 12) (v := .ref 94) kc_90_9 rfl rfl rfl A29 rfl ?_
            refine xcps4 (xk_arr K26.1 xD_94) (fun y33 A33 hy33 ry33 => ?_)
            refine xi_arraylength (pc' := 13) (n := 7) (v := 7) kc_90_12 rfl (xl_lenI (by decide) (by decide) A33 hy33) rfl ?_
            refine xi_cmf (pc' := 16) kc_90_13 rfl rfl ?_
            refine xi_aload_n (pc' := 17) (x := 0) kc_90_16 rfl rfl ?_
            refine xi_getfield (pc' := 20) (v := .ref 94) kc_90_17 rfl rfl rfl A29 rfl ?_
            refine xi_iload_n (pc' := 21) (x := 4) kc_90_20 rfl rfl ?_
            refine xi_dup2 (pc' := 22) kc_90_21 rfl ⟨rfl, rfl⟩ ?_
            refine xcps4 (xj_get hy33 ry33 (i := 4) (by decide) (by decide)) (fun v34 ev34 bv34 dv34 => ?_)
            refine xi_iaload (pc' := 23) (v := v34) kc_90_22 rfl A33 (by decide) rfl (xi_in (by decide) (by rw [hy33]; decide)) ev34 ?_
            refine xi_iconst (pc' := 24) (v := 1) kc_90_23 rfl rfl ?_
            refine xcps2 (α := Int32) ((v34 : Int32) + 1) (fun v35 ev35 => ?_)
            have rv35 := xc_rng v35
            refine xi_iadd (pc' := 25) (v := v35) kc_90_24 rfl ev35 ?_
            refine xcps4 (xj_set (v := v35) hy33 ry33 4 (by first | omega | decide) (by first | omega | decide)) (fun y36 s36 hy36 ry36 => ?_)
            refine xi_iastore (pc' := 26) (x' := y36) kc_90_25 rfl A33 rfl (xi_in (by decide) (by rw [hy33]; decide)) s36 (fun hh36 eh36 => ?_)
            have K37 := xk_pa K26 (xk_wa rfl) xD_94 hy36 ry36 eh36
            refine xi_iload_n (pc' := 27) (x := (-4)) kc_90_26 rfl rfl ?_
            refine xi_ireturn kc_90_27 mr_90 rfl ?_
            show xw J ov (d + 2) 163 (74, [(0, .ref 0), (1, .int x1), (2, .int x2), (3, .int x3), (4, .int x4), (5, .int x5)], [.int (-4)], hh36) _
            refine xi_ireturn kc_163_74 mr_163 rfl ?_
            have zcm4 : ((-4) : Int32).toInt = (-4) := by decide
            exact kk (-4) hh36 (by omega) K37
          · refine xi_iff (pc' := 52) kc_163_49 rfl (xc_lt_f (X := x3.toInt) (Y := 0) rfl (by decide) (by omega)) ?_
            refine xi_iload (pc' := 54) (x := x4) kc_163_52 rfl rfl ?_
            refine xi_aload_n (pc' := 55) (x := 0) kc_163_54 rfl rfl ?_
            refine xi_getfield (pc' := 58) (v := .int u21) kc_163_55 rfl rfl rfl A29 rfl ?_
            by_cases c38 : x4.toInt < u21.toInt
            · refine xi_cmt (pc' := 68) kc_163_58 rfl (xc_lt_t (X := x4.toInt) (Y := u21.toInt) rfl rfl (by omega)) ?_
              refine xi_aload_n (pc' := 69) (x := 0) kc_163_68 rfl rfl ?_
              refine xi_bipush (pc' := 71) (v := (-4)) kc_163_69 rfl rfl ?_
              refine xi_virtual (mj := 90) (as := [.int (-4)]) (st1 := []) (lv0 := [(0, .ref 0), (1, .int (-4))]) kc_163_71 rfl rfl rfl rfl rfl A29 (Nat.le_of_ble_eq_true rfl) (hJ _ _ _ _ (by decide)) (xm_le ml_90 rfl) rfl ?_
              refine xi_iload_n (pc' := 1) (x := (-4)) kc_90_0 rfl rfl ?_
              refine xi_ineg (pc' := 2) (v := 4) kc_90_1 rfl rfl ?_
              refine xi_istore_n (pc' := 3) (lv' := [(2, .int 4), (0, .ref 0), (1, .int (-4))]) kc_90_2 rfl rfl (xm_lt ml_90 rfl) ?_
              refine xi_iload_n (pc' := 4) (x := 4) kc_90_3 rfl rfl ?_
              refine xi_iff (pc' := 7) kc_90_4 rfl rfl ?_
              refine xi_iload_n (pc' := 8) (x := 4) kc_90_7 rfl rfl ?_
              refine xi_aload_n (pc' := 9) (x := 0) kc_90_8 rfl rfl ?_
              refine xi_getfield (pc' := 12) (v := .ref 94) kc_90_9 rfl rfl rfl A29 rfl ?_
              refine xcps4 (xk_arr K26.1 xD_94) (fun y39 A39 hy39 ry39 => ?_)
              refine xi_arraylength (pc' := 13) (n := 7) (v := 7) kc_90_12 rfl (xl_lenI (by decide) (by decide) A39 hy39) rfl ?_
              refine xi_cmf (pc' := 16) kc_90_13 rfl rfl ?_
              refine xi_aload_n (pc' := 17) (x := 0) kc_90_16 rfl rfl ?_
              refine xi_getfield (pc' := 20) (v := .ref 94) kc_90_17 rfl rfl rfl A29 rfl ?_
              refine xi_iload_n (pc' := 21) (x := 4) kc_90_20 rfl rfl ?_
              refine xi_dup2 (pc' := 22) kc_90_21 rfl ⟨rfl, rfl⟩ ?_
              refine xcps4 (xj_get hy39 ry39 (i := 4) (by decide) (by decide)) (fun v40 ev40 bv40 dv40 => ?_)
              refine xi_iaload (pc' := 23) (v := v40) kc_90_22 rfl A39 (by decide) rfl (xi_in (by decide) (by rw [hy39]; decide)) ev40 ?_
              refine xi_iconst (pc' := 24) (v := 1) kc_90_23 rfl rfl ?_
              refine xcps2 (α := Int32) ((v40 : Int32) + 1) (fun v41 ev41 => ?_)
              have rv41 := xc_rng v41
              refine xi_iadd (pc' := 25) (v := v41) kc_90_24 rfl ev41 ?_
              refine xcps4 (xj_set (v := v41) hy39 ry39 4 (by first | omega | decide) (by first | omega | decide)) (fun y42 s42 hy42 ry42 => ?_)
              refine xi_iastore (pc' := 26) (x' := y42) kc_90_25 rfl A39 rfl (xi_in (by decide) (by rw [hy39]; decide)) s42 (fun hh42 eh42 => ?_)
              have K43 := xk_pa K26 (xk_wa rfl) xD_94 hy42 ry42 eh42
              refine xi_iload_n (pc' := 27) (x := (-4)) kc_90_26 rfl rfl ?_
              refine xi_ireturn kc_90_27 mr_90 rfl ?_
              show xw J ov (d + 2) 163 (74, [(0, .ref 0), (1, .int x1), (2, .int x2), (3, .int x3), (4, .int x4), (5, .int x5)], [.int (-4)], hh42) _
              refine xi_ireturn kc_163_74 mr_163 rfl ?_
              have zcm4 : ((-4) : Int32).toInt = (-4) := by decide
              exact kk (-4) hh42 (by omega) K43
            · refine xi_cmf (pc' := 61) kc_163_58 rfl (xc_lt_f (X := x4.toInt) (Y := u21.toInt) rfl rfl (by omega)) ?_
              refine xi_iload (pc' := 63) (x := x5) kc_163_61 rfl rfl ?_
              refine xi_iload (pc' := 65) (x := x4) kc_163_63 rfl rfl ?_
              by_cases c44 : x4.toInt < x5.toInt
              · refine xi_cmt (pc' := 75) kc_163_65 rfl (xc_gt_t (X := x5.toInt) (Y := x4.toInt) rfl rfl (by omega)) ?_
                refine xi_iload_n (pc' := 76) (x := x3) kc_163_75 rfl rfl ?_
                refine xi_getstatic (pc' := 79) (j := 1000002) kc_163_76 rfl rfl ?_
                refine xi_iconst (pc' := 80) (v := 2) kc_163_79 rfl rfl ?_
                refine xi_ialoadO (pc' := 81) (v := 50) kc_163_80 rfl (by decide) hov2 (xi_in (n := 6) (by decide) (by decide)) rfl ?_
                by_cases c45 : 50 < x3.toInt
                · refine xi_cmt (pc' := 101) kc_163_81 rfl (xc_gt_t (X := x3.toInt) (Y := 50) rfl (by decide) (by omega)) ?_
                  refine xi_aload_n (pc' := 102) (x := 0) kc_163_101 rfl rfl ?_
                  refine xi_bipush (pc' := 104) (v := (-6)) kc_163_102 rfl rfl ?_
                  refine xi_virtual (mj := 90) (as := [.int (-6)]) (st1 := []) (lv0 := [(0, .ref 0), (1, .int (-6))]) kc_163_104 rfl rfl rfl rfl rfl A29 (Nat.le_of_ble_eq_true rfl) (hJ _ _ _ _ (by decide)) (xm_le ml_90 rfl) rfl ?_
                  refine xi_iload_n (pc' := 1) (x := (-6)) kc_90_0 rfl rfl ?_
                  refine xi_ineg (pc' := 2) (v := 6) kc_90_1 rfl rfl ?_
                  refine xi_istore_n (pc' := 3) (lv' := [(2, .int 6), (0, .ref 0), (1, .int (-6))]) kc_90_2 rfl rfl (xm_lt ml_90 rfl) ?_
                  refine xi_iload_n (pc' := 4) (x := 6) kc_90_3 rfl rfl ?_
                  refine xi_iff (pc' := 7) kc_90_4 rfl rfl ?_
                  refine xi_iload_n (pc' := 8) (x := 6) kc_90_7 rfl rfl ?_
                  refine xi_aload_n (pc' := 9) (x := 0) kc_90_8 rfl rfl ?_
                  refine xi_getfield (pc' := 12) (v := .ref 94) kc_90_9 rfl rfl rfl A29 rfl ?_
                  refine xcps4 (xk_arr K26.1 xD_94) (fun y46 A46 hy46 ry46 => ?_)
                  refine xi_arraylength (pc' := 13) (n := 7) (v := 7) kc_90_12 rfl (xl_lenI (by decide) (by decide) A46 hy46) rfl ?_
                  refine xi_cmf (pc' := 16) kc_90_13 rfl rfl ?_
                  refine xi_aload_n (pc' := 17) (x := 0) kc_90_16 rfl rfl ?_
                  refine xi_getfield (pc' := 20) (v := .ref 94) kc_90_17 rfl rfl rfl A29 rfl ?_
                  refine xi_iload_n (pc' := 21) (x := 6) kc_90_20 rfl rfl ?_
                  refine xi_dup2 (pc' := 22) kc_90_21 rfl ⟨rfl, rfl⟩ ?_
                  refine xcps4 (xj_get hy46 ry46 (i := 6) (by decide) (by decide)) (fun v47 ev47 bv47 dv47 => ?_)
                  refine xi_iaload (pc' := 23) (v := v47) kc_90_22 rfl A46 (by decide) rfl (xi_in (by decide) (by rw [hy46]; decide)) ev47 ?_
                  refine xi_iconst (pc' := 24) (v := 1) kc_90_23 rfl rfl ?_
                  refine xcps2 (α := Int32) ((v47 : Int32) + 1) (fun v48 ev48 => ?_)
                  have rv48 := xc_rng v48
                  refine xi_iadd (pc' := 25) (v := v48) kc_90_24 rfl ev48 ?_
                  refine xcps4 (xj_set (v := v48) hy46 ry46 6 (by first | omega | decide) (by first | omega | decide)) (fun y49 s49 hy49 ry49 => ?_)
                  refine xi_iastore (pc' := 26) (x' := y49) kc_90_25 rfl A46 rfl (xi_in (by decide) (by rw [hy46]; decide)) s49 (fun hh49 eh49 => ?_)
                  have K50 := xk_pa K26 (xk_wa rfl) xD_94 hy49 ry49 eh49
                  refine xi_iload_n (pc' := 27) (x := (-6)) kc_90_26 rfl rfl ?_
                  refine xi_ireturn kc_90_27 mr_90 rfl ?_
                  show xw J ov (d + 2) 163 (107, [(0, .ref 0), (1, .int x1), (2, .int x2), (3, .int x3), (4, .int x4), (5, .int x5)], [.int (-6)], hh49) _
                  refine xi_ireturn kc_163_107 mr_163 rfl ?_
                  have zcm6 : ((-6) : Int32).toInt = (-6) := by decide
                  exact kk (-6) hh49 (by omega) K50
                · refine xi_cmf (pc' := 84) kc_163_81 rfl (xc_gt_f (X := x3.toInt) (Y := 50) rfl (by decide) (by omega)) ?_
                  refine xi_iload (pc' := 86) (x := x5) kc_163_84 rfl rfl ?_
                  refine xi_sipush (pc' := 89) (v := 600) kc_163_86 rfl rfl ?_
                  by_cases c51 : 600 < x5.toInt
                  · refine xi_cmt (pc' := 101) kc_163_89 rfl (xc_gt_t (X := x5.toInt) (Y := 600) rfl (by decide) (by omega)) ?_
                    refine xi_aload_n (pc' := 102) (x := 0) kc_163_101 rfl rfl ?_
                    refine xi_bipush (pc' := 104) (v := (-6)) kc_163_102 rfl rfl ?_
                    refine xi_virtual (mj := 90) (as := [.int (-6)]) (st1 := []) (lv0 := [(0, .ref 0), (1, .int (-6))]) kc_163_104 rfl rfl rfl rfl rfl A29 (Nat.le_of_ble_eq_true rfl) (hJ _ _ _ _ (by decide)) (xm_le ml_90 rfl) rfl ?_
                    refine xi_iload_n (pc' := 1) (x := (-6)) kc_90_0 rfl rfl ?_
                    refine xi_ineg (pc' := 2) (v := 6) kc_90_1 rfl rfl ?_
                    refine xi_istore_n (pc' := 3) (lv' := [(2, .int 6), (0, .ref 0), (1, .int (-6))]) kc_90_2 rfl rfl (xm_lt ml_90 rfl) ?_
                    refine xi_iload_n (pc' := 4) (x := 6) kc_90_3 rfl rfl ?_
                    refine xi_iff (pc' := 7) kc_90_4 rfl rfl ?_
                    refine xi_iload_n (pc' := 8) (x := 6) kc_90_7 rfl rfl ?_
                    refine xi_aload_n (pc' := 9) (x := 0) kc_90_8 rfl rfl ?_
                    refine xi_getfield (pc' := 12) (v := .ref 94) kc_90_9 rfl rfl rfl A29 rfl ?_
                    refine xcps4 (xk_arr K26.1 xD_94) (fun y52 A52 hy52 ry52 => ?_)
                    refine xi_arraylength (pc' := 13) (n := 7) (v := 7) kc_90_12 rfl (xl_lenI (by decide) (by decide) A52 hy52) rfl ?_
                    refine xi_cmf (pc' := 16) kc_90_13 rfl rfl ?_
                    refine xi_aload_n (pc' := 17) (x := 0) kc_90_16 rfl rfl ?_
                    refine xi_getfield (pc' := 20) (v := .ref 94) kc_90_17 rfl rfl rfl A29 rfl ?_
                    refine xi_iload_n (pc' := 21) (x := 6) kc_90_20 rfl rfl ?_
                    refine xi_dup2 (pc' := 22) kc_90_21 rfl ⟨rfl, rfl⟩ ?_
                    refine xcps4 (xj_get hy52 ry52 (i := 6) (by decide) (by decide)) (fun v53 ev53 bv53 dv53 => ?_)
                    refine xi_iaload (pc' := 23) (v := v53) kc_90_22 rfl A52 (by decide) rfl (xi_in (by decide) (by rw [hy52]; decide)) ev53 ?_
                    refine xi_iconst (pc' := 24) (v := 1) kc_90_23 rfl rfl ?_
                    refine xcps2 (α := Int32) ((v53 : Int32) + 1) (fun v54 ev54 => ?_)
                    have rv54 := xc_rng v54
                    refine xi_iadd (pc' := 25) (v := v54) kc_90_24 rfl ev54 ?_
                    refine xcps4 (xj_set (v := v54) hy52 ry52 6 (by first | omega | decide) (by first | omega | decide)) (fun y55 s55 hy55 ry55 => ?_)
                    refine xi_iastore (pc' := 26) (x' := y55) kc_90_25 rfl A52 rfl (xi_in (by decide) (by rw [hy52]; decide)) s55 (fun hh55 eh55 => ?_)
                    have K56 := xk_pa K26 (xk_wa rfl) xD_94 hy55 ry55 eh55
                    refine xi_iload_n (pc' := 27) (x := (-6)) kc_90_26 rfl rfl ?_
                    refine xi_ireturn kc_90_27 mr_90 rfl ?_
                    show xw J ov (d + 2) 163 (107, [(0, .ref 0), (1, .int x1), (2, .int x2), (3, .int x3), (4, .int x4), (5, .int x5)], [.int (-6)], hh55) _
                    refine xi_ireturn kc_163_107 mr_163 rfl ?_
                    have zcm6 : ((-6) : Int32).toInt = (-6) := by decide
                    exact kk (-6) hh55 (by omega) K56
                  · refine xi_cmf (pc' := 92) kc_163_89 rfl (xc_gt_f (X := x5.toInt) (Y := 600) rfl (by decide) (by omega)) ?_
                    refine xi_aload_n (pc' := 93) (x := 0) kc_163_92 rfl rfl ?_
                    refine xi_getfield (pc' := 96) (v := .int u27) kc_163_93 rfl rfl rfl A29 rfl ?_
                    refine xi_bipush (pc' := 98) (v := 20) kc_163_96 rfl rfl ?_
                    by_cases c57 : u27.toInt < 20
                    · refine xi_cmt (pc' := 108) kc_163_98 rfl (xc_lt_t (X := u27.toInt) (Y := 20) rfl (by decide) (by omega)) ?_
                      refine xi_aload_n (pc' := 109) (x := 0) kc_163_108 rfl rfl ?_
                      refine xi_getfield (pc' := 112) (v := .ref 93) kc_163_109 rfl rfl rfl A29 rfl ?_
                      refine xi_aload_n (pc' := 113) (x := 0) kc_163_112 rfl rfl ?_
                      refine xi_getfield (pc' := 116) (v := .int u27) kc_163_113 rfl rfl rfl A29 rfl ?_
                      have A58 := xk_ex K26.1 xD_93
                      obtain ⟨pt59, ept59, mpt59⟩ := xR_93 (i := u27) (by omega) (by omega)
                      refine xj_aaload (pc' := 117) (b := pt59) kc_163_116 rfl A58 rfl (xi_in (n := 20) (by omega) (by omega)) ept59 ?_
                      refine xi_astore (pc' := 119) (lv' := [(6, .ref pt59), (0, .ref 0), (1, .int x1), (2, .int x2), (3, .int x3), (4, .int x4), (5, .int x5)]) kc_163_117 rfl rfl (xm_lt ml_163 rfl) ?_
                      refine xi_aload (pc' := 121) (x := pt59) kc_163_119 rfl rfl ?_
                      refine xi_iload_n (pc' := 122) (x := x1) kc_163_121 rfl rfl ?_
                      obtain ⟨u60, u61, u62, u63, u64, u65, bu60, bu61, bu62, bu63, bu64, bu65, A66⟩ := xg_trial K26.1 mpt59
                      refine xi_putfield (pc' := 125) (fs' := [.int x1, .int u61, .int u62, .int u63, .int u64, .int u65]) kc_163_122 rfl rfl rfl A66 rfl rfl rfl (Nat.le_of_ble_eq_true rfl) rfl (fun hh68 eh67 => ?_)
                      obtain ⟨ds69, Dds69, dds69_0, dds69_1, dds69_2, dds69_3, dds69_4, dds69_5⟩ := xGo_trial mpt59
                      have K70 := xk_pf (k := 0) (v := x1) K26 (xk_gf mpt59 rfl) Dds69 A66 dds69_0 (by first | omega | decide) (by first | omega | decide) eh67 rfl
                      refine xi_aload (pc' := 127) (x := pt59) kc_163_125 rfl rfl ?_
                      refine xi_iload_n (pc' := 128) (x := x2) kc_163_127 rfl rfl ?_
                      refine xi_iff (pc' := 131) kc_163_128 rfl (xc_ne_f (X := x2.toInt) (Y := 0) rfl (by decide) (by omega)) ?_
                      refine xi_iconst (pc' := 132) (v := 4) kc_163_131 rfl rfl ?_
                      refine xi_goto (pc' := 136) kc_163_132 rfl ?_
                      refine xi_putfield (pc' := 139) (fs' := [.int x1, .int 4, .int u62, .int u63, .int u64, .int u65]) kc_163_136 rfl rfl rfl eh67.1 rfl rfl rfl (Nat.le_of_ble_eq_true rfl) rfl (fun hh72 eh71 => ?_)
                      obtain ⟨ds73, Dds73, dds73_0, dds73_1, dds73_2, dds73_3, dds73_4, dds73_5⟩ := xGo_trial mpt59
                      have K74 := xk_pf (k := 1) (v := 4) K70 (xk_gf mpt59 rfl) Dds73 eh67.1 dds73_1 (by first | omega | decide) (by first | omega | decide) eh71 rfl
                      refine xi_aload (pc' := 141) (x := pt59) kc_163_139 rfl rfl ?_
                      refine xi_iload_n (pc' := 142) (x := x2) kc_163_141 rfl rfl ?_
                      refine xi_iff (pc' := 145) kc_163_142 rfl (xc_ne_f (X := x2.toInt) (Y := 0) rfl (by decide) (by omega)) ?_
                      refine xi_iconst (pc' := 146) (v := 1) kc_163_145 rfl rfl ?_
                      refine xi_goto (pc' := 150) kc_163_146 rfl ?_
                      refine xi_putfield (pc' := 153) (fs' := [.int x1, .int 4, .int 1, .int u63, .int u64, .int u65]) kc_163_150 rfl rfl rfl eh71.1 rfl rfl rfl (Nat.le_of_ble_eq_true rfl) rfl (fun hh76 eh75 => ?_)
                      obtain ⟨ds77, Dds77, dds77_0, dds77_1, dds77_2, dds77_3, dds77_4, dds77_5⟩ := xGo_trial mpt59
                      have K78 := xk_pf (k := 2) (v := 1) K74 (xk_gf mpt59 rfl) Dds77 eh71.1 dds77_2 (by first | omega | decide) (by first | omega | decide) eh75 rfl
                      refine xi_aload (pc' := 155) (x := pt59) kc_163_153 rfl rfl ?_
                      refine xi_iload (pc' := 157) (x := x4) kc_163_155 rfl rfl ?_
                      refine xi_putfield (pc' := 160) (fs' := [.int x1, .int 4, .int 1, .int x4, .int u64, .int u65]) kc_163_157 rfl rfl rfl eh75.1 rfl rfl rfl (Nat.le_of_ble_eq_true rfl) rfl (fun hh80 eh79 => ?_)
                      obtain ⟨ds81, Dds81, dds81_0, dds81_1, dds81_2, dds81_3, dds81_4, dds81_5⟩ := xGo_trial mpt59
                      have K82 := xk_pf (k := 3) (v := x4) K78 (xk_gf mpt59 rfl) Dds81 eh75.1 dds81_3 (by first | omega | decide) (by first | omega | decide) eh79 rfl
                      refine xi_aload (pc' := 162) (x := pt59) kc_163_160 rfl rfl ?_
                      refine xi_iload (pc' := 164) (x := x5) kc_163_162 rfl rfl ?_
                      refine xi_putfield (pc' := 167) (fs' := [.int x1, .int 4, .int 1, .int x4, .int x5, .int u65]) kc_163_164 rfl rfl rfl eh79.1 rfl rfl rfl (Nat.le_of_ble_eq_true rfl) rfl (fun hh84 eh83 => ?_)
                      obtain ⟨ds85, Dds85, dds85_0, dds85_1, dds85_2, dds85_3, dds85_4, dds85_5⟩ := xGo_trial mpt59
                      have K86 := xk_pf (k := 4) (v := x5) K82 (xk_gf mpt59 rfl) Dds85 eh79.1 dds85_4 (by first | omega | decide) (by first | omega | decide) eh83 rfl
                      refine xi_aload_n (pc' := 168) (x := 0) kc_163_167 rfl rfl ?_
                      refine xi_dup (pc' := 169) kc_163_168 rfl rfl ?_
                      have A87 := ((eh83.2.1 0 (xk_nc mpt59 rfl)).trans ((eh79.2.1 0 (xk_nc mpt59 rfl)).trans ((eh75.2.1 0 (xk_nc mpt59 rfl)).trans ((eh71.2.1 0 (xk_nc mpt59 rfl)).trans ((eh67.2.1 0 (xk_nc mpt59 rfl)).trans A29)))))
                      refine xi_getfield (pc' := 172) (v := .int u27) kc_163_169 rfl rfl rfl A87 rfl ?_
                      refine xi_iconst (pc' := 173) (v := 1) kc_163_172 rfl rfl ?_
                      refine xcps2 (α := Int32) (u27 + 1) (fun v88 ev88 => ?_)
                      have zv88 : v88.toInt = (u27.toInt + 1) := by rw [← ev88]; exact (xz_add (X := u27.toInt) (Y := 1) rfl (by decide) (by omega) (by omega)).trans (by omega)
                      refine xi_iadd (pc' := 174) (v := v88) kc_163_173 rfl ev88 ?_
                      refine xi_putfield (pc' := 177) (fs' := [.ref 1, .ref 63, .ref 66, .ref 75, .ref 80, .ref 85, .ref 93, .ref 94, .int v88, .int u21]) kc_163_174 rfl rfl rfl A87 rfl rfl rfl (Nat.le_of_ble_eq_true rfl) rfl (fun hh90 eh89 => ?_)
                      have K91 := xk_pf (k := 8) (v := v88) K86 (xk_wf rfl) xD_0 A87 rfl (by first | omega | decide) (by first | omega | decide) eh89 rfl
                      refine xi_aload_n (pc' := 178) (x := 0) kc_163_177 rfl rfl ?_
                      refine xi_getfield (pc' := 181) (v := .int v88) kc_163_178 rfl rfl rfl eh89.1 rfl ?_
                      refine xi_iconst (pc' := 182) (v := 1) kc_163_181 rfl rfl ?_
                      refine xcps2 (α := Int32) (v88 - 1) (fun v92 ev92 => ?_)
                      have zv92 : v92.toInt = u27.toInt := by rw [← ev92]; exact (xz_sub (X := (u27.toInt + 1)) (Y := 1) zv88 (by decide) (by omega) (by omega)).trans (by omega)
                      refine xi_isub (pc' := 183) (v := v92) kc_163_182 rfl ev92 ?_
                      refine xi_ireturn kc_163_183 mr_163 rfl ?_
                      exact kk v92 hh90 (by omega) K91
                    · refine xi_cmf (pc' := 101) kc_163_98 rfl (xc_lt_f (X := u27.toInt) (Y := 20) rfl (by decide) (by omega)) ?_
                      refine xi_aload_n (pc' := 102) (x := 0) kc_163_101 rfl rfl ?_
                      refine xi_bipush (pc' := 104) (v := (-6)) kc_163_102 rfl rfl ?_
                      refine xi_virtual (mj := 90) (as := [.int (-6)]) (st1 := []) (lv0 := [(0, .ref 0), (1, .int (-6))]) kc_163_104 rfl rfl rfl rfl rfl A29 (Nat.le_of_ble_eq_true rfl) (hJ _ _ _ _ (by decide)) (xm_le ml_90 rfl) rfl ?_
                      refine xi_iload_n (pc' := 1) (x := (-6)) kc_90_0 rfl rfl ?_
                      refine xi_ineg (pc' := 2) (v := 6) kc_90_1 rfl rfl ?_
                      refine xi_istore_n (pc' := 3) (lv' := [(2, .int 6), (0, .ref 0), (1, .int (-6))]) kc_90_2 rfl rfl (xm_lt ml_90 rfl) ?_
                      refine xi_iload_n (pc' := 4) (x := 6) kc_90_3 rfl rfl ?_
                      refine xi_iff (pc' := 7) kc_90_4 rfl rfl ?_
                      refine xi_iload_n (pc' := 8) (x := 6) kc_90_7 rfl rfl ?_
                      refine xi_aload_n (pc' := 9) (x := 0) kc_90_8 rfl rfl ?_
                      refine xi_getfield (pc' := 12) (v := .ref 94) kc_90_9 rfl rfl rfl A29 rfl ?_
                      refine xcps4 (xk_arr K26.1 xD_94) (fun y93 A93 hy93 ry93 => ?_)
                      refine xi_arraylength (pc' := 13) (n := 7) (v := 7) kc_90_12 rfl (xl_lenI (by decide) (by decide) A93 hy93) rfl ?_
                      refine xi_cmf (pc' := 16) kc_90_13 rfl rfl ?_
                      refine xi_aload_n (pc' := 17) (x := 0) kc_90_16 rfl rfl ?_
                      refine xi_getfield (pc' := 20) (v := .ref 94) kc_90_17 rfl rfl rfl A29 rfl ?_
                      refine xi_iload_n (pc' := 21) (x := 6) kc_90_20 rfl rfl ?_
                      refine xi_dup2 (pc' := 22) kc_90_21 rfl ⟨rfl, rfl⟩ ?_
                      refine xcps4 (xj_get hy93 ry93 (i := 6) (by decide) (by decide)) (fun v94 ev94 bv94 dv94 => ?_)
                      refine xi_iaload (pc' := 23) (v := v94) kc_90_22 rfl A93 (by decide) rfl (xi_in (by decide) (by rw [hy93]; decide)) ev94 ?_
                      refine xi_iconst (pc' := 24) (v := 1) kc_90_23 rfl rfl ?_
                      refine xcps2 (α := Int32) ((v94 : Int32) + 1) (fun v95 ev95 => ?_)
                      have rv95 := xc_rng v95
                      refine xi_iadd (pc' := 25) (v := v95) kc_90_24 rfl ev95 ?_
                      refine xcps4 (xj_set (v := v95) hy93 ry93 6 (by first | omega | decide) (by first | omega | decide)) (fun y96 s96 hy96 ry96 => ?_)
                      refine xi_iastore (pc' := 26) (x' := y96) kc_90_25 rfl A93 rfl (xi_in (by decide) (by rw [hy93]; decide)) s96 (fun hh96 eh96 => ?_)
                      have K97 := xk_pa K26 (xk_wa rfl) xD_94 hy96 ry96 eh96
                      refine xi_iload_n (pc' := 27) (x := (-6)) kc_90_26 rfl rfl ?_
                      refine xi_ireturn kc_90_27 mr_90 rfl ?_
                      show xw J ov (d + 2) 163 (107, [(0, .ref 0), (1, .int x1), (2, .int x2), (3, .int x3), (4, .int x4), (5, .int x5)], [.int (-6)], hh96) _
                      refine xi_ireturn kc_163_107 mr_163 rfl ?_
                      have zcm6 : ((-6) : Int32).toInt = (-6) := by decide
                      exact kk (-6) hh96 (by omega) K97
              · refine xi_cmf (pc' := 68) kc_163_65 rfl (xc_gt_f (X := x5.toInt) (Y := x4.toInt) rfl rfl (by omega)) ?_
                refine xi_aload_n (pc' := 69) (x := 0) kc_163_68 rfl rfl ?_
                refine xi_bipush (pc' := 71) (v := (-4)) kc_163_69 rfl rfl ?_
                refine xi_virtual (mj := 90) (as := [.int (-4)]) (st1 := []) (lv0 := [(0, .ref 0), (1, .int (-4))]) kc_163_71 rfl rfl rfl rfl rfl A29 (Nat.le_of_ble_eq_true rfl) (hJ _ _ _ _ (by decide)) (xm_le ml_90 rfl) rfl ?_
                refine xi_iload_n (pc' := 1) (x := (-4)) kc_90_0 rfl rfl ?_
                refine xi_ineg (pc' := 2) (v := 4) kc_90_1 rfl rfl ?_
                refine xi_istore_n (pc' := 3) (lv' := [(2, .int 4), (0, .ref 0), (1, .int (-4))]) kc_90_2 rfl rfl (xm_lt ml_90 rfl) ?_
                refine xi_iload_n (pc' := 4) (x := 4) kc_90_3 rfl rfl ?_
                refine xi_iff (pc' := 7) kc_90_4 rfl rfl ?_
                refine xi_iload_n (pc' := 8) (x := 4) kc_90_7 rfl rfl ?_
                refine xi_aload_n (pc' := 9) (x := 0) kc_90_8 rfl rfl ?_
                refine xi_getfield (pc' := 12) (v := .ref 94) kc_90_9 rfl rfl rfl A29 rfl ?_
                refine xcps4 (xk_arr K26.1 xD_94) (fun y98 A98 hy98 ry98 => ?_)
                refine xi_arraylength (pc' := 13) (n := 7) (v := 7) kc_90_12 rfl (xl_lenI (by decide) (by decide) A98 hy98) rfl ?_
                refine xi_cmf (pc' := 16) kc_90_13 rfl rfl ?_
                refine xi_aload_n (pc' := 17) (x := 0) kc_90_16 rfl rfl ?_
                refine xi_getfield (pc' := 20) (v := .ref 94) kc_90_17 rfl rfl rfl A29 rfl ?_
                refine xi_iload_n (pc' := 21) (x := 4) kc_90_20 rfl rfl ?_
                refine xi_dup2 (pc' := 22) kc_90_21 rfl ⟨rfl, rfl⟩ ?_
                refine xcps4 (xj_get hy98 ry98 (i := 4) (by decide) (by decide)) (fun v99 ev99 bv99 dv99 => ?_)
                refine xi_iaload (pc' := 23) (v := v99) kc_90_22 rfl A98 (by decide) rfl (xi_in (by decide) (by rw [hy98]; decide)) ev99 ?_
                refine xi_iconst (pc' := 24) (v := 1) kc_90_23 rfl rfl ?_
                refine xcps2 (α := Int32) ((v99 : Int32) + 1) (fun v100 ev100 => ?_)
                have rv100 := xc_rng v100
                refine xi_iadd (pc' := 25) (v := v100) kc_90_24 rfl ev100 ?_
                refine xcps4 (xj_set (v := v100) hy98 ry98 4 (by first | omega | decide) (by first | omega | decide)) (fun y101 s101 hy101 ry101 => ?_)
                refine xi_iastore (pc' := 26) (x' := y101) kc_90_25 rfl A98 rfl (xi_in (by decide) (by rw [hy98]; decide)) s101 (fun hh101 eh101 => ?_)
                have K102 := xk_pa K26 (xk_wa rfl) xD_94 hy101 ry101 eh101
                refine xi_iload_n (pc' := 27) (x := (-4)) kc_90_26 rfl rfl ?_
                refine xi_ireturn kc_90_27 mr_90 rfl ?_
                show xw J ov (d + 2) 163 (74, [(0, .ref 0), (1, .int x1), (2, .int x2), (3, .int x3), (4, .int x4), (5, .int x5)], [.int (-4)], hh101) _
                refine xi_ireturn kc_163_74 mr_163 rfl ?_
                have zcm4 : ((-4) : Int32).toInt = (-4) := by decide
                exact kk (-4) hh101 (by omega) K102
        · refine xi_iff (pc' := 41) kc_163_38 rfl (xc_eq_f (X := r23.toInt) (Y := 0) rfl (by decide) (by omega)) ?_
          refine xi_aload_n (pc' := 42) (x := 0) kc_163_41 rfl rfl ?_
          refine xi_bipush (pc' := 44) (v := (-3)) kc_163_42 rfl rfl ?_
          refine xi_virtual (mj := 90) (as := [.int (-3)]) (st1 := []) (lv0 := [(0, .ref 0), (1, .int (-3))]) kc_163_44 rfl rfl rfl rfl rfl A29 (Nat.le_of_ble_eq_true rfl) (hJ _ _ _ _ (by decide)) (xm_le ml_90 rfl) rfl ?_
          refine xi_iload_n (pc' := 1) (x := (-3)) kc_90_0 rfl rfl ?_
          refine xi_ineg (pc' := 2) (v := 3) kc_90_1 rfl rfl ?_
          refine xi_istore_n (pc' := 3) (lv' := [(2, .int 3), (0, .ref 0), (1, .int (-3))]) kc_90_2 rfl rfl (xm_lt ml_90 rfl) ?_
          refine xi_iload_n (pc' := 4) (x := 3) kc_90_3 rfl rfl ?_
          refine xi_iff (pc' := 7) kc_90_4 rfl rfl ?_
          refine xi_iload_n (pc' := 8) (x := 3) kc_90_7 rfl rfl ?_
          refine xi_aload_n (pc' := 9) (x := 0) kc_90_8 rfl rfl ?_
          refine xi_getfield (pc' := 12) (v := .ref 94) kc_90_9 rfl rfl rfl A29 rfl ?_
          refine xcps4 (xk_arr K26.1 xD_94) (fun y103 A103 hy103 ry103 => ?_)
          refine xi_arraylength (pc' := 13) (n := 7) (v := 7) kc_90_12 rfl (xl_lenI (by decide) (by decide) A103 hy103) rfl ?_
          refine xi_cmf (pc' := 16) kc_90_13 rfl rfl ?_
          refine xi_aload_n (pc' := 17) (x := 0) kc_90_16 rfl rfl ?_
          refine xi_getfield (pc' := 20) (v := .ref 94) kc_90_17 rfl rfl rfl A29 rfl ?_
          refine xi_iload_n (pc' := 21) (x := 3) kc_90_20 rfl rfl ?_
          refine xi_dup2 (pc' := 22) kc_90_21 rfl ⟨rfl, rfl⟩ ?_
          refine xcps4 (xj_get hy103 ry103 (i := 3) (by decide) (by decide)) (fun v104 ev104 bv104 dv104 => ?_)
          refine xi_iaload (pc' := 23) (v := v104) kc_90_22 rfl A103 (by decide) rfl (xi_in (by decide) (by rw [hy103]; decide)) ev104 ?_
          refine xi_iconst (pc' := 24) (v := 1) kc_90_23 rfl rfl ?_
          refine xcps2 (α := Int32) ((v104 : Int32) + 1) (fun v105 ev105 => ?_)
          have rv105 := xc_rng v105
          refine xi_iadd (pc' := 25) (v := v105) kc_90_24 rfl ev105 ?_
          refine xcps4 (xj_set (v := v105) hy103 ry103 3 (by first | omega | decide) (by first | omega | decide)) (fun y106 s106 hy106 ry106 => ?_)
          refine xi_iastore (pc' := 26) (x' := y106) kc_90_25 rfl A103 rfl (xi_in (by decide) (by rw [hy103]; decide)) s106 (fun hh106 eh106 => ?_)
          have K107 := xk_pa K26 (xk_wa rfl) xD_94 hy106 ry106 eh106
          refine xi_iload_n (pc' := 27) (x := (-3)) kc_90_26 rfl rfl ?_
          refine xi_ireturn kc_90_27 mr_90 rfl ?_
          show xw J ov (d + 2) 163 (47, [(0, .ref 0), (1, .int x1), (2, .int x2), (3, .int x3), (4, .int x4), (5, .int x5)], [.int (-3)], hh106) _
          refine xi_ireturn kc_163_47 mr_163 rfl ?_
          have zcm3 : ((-3) : Int32).toInt = (-3) := by decide
          exact kk (-3) hh106 (by omega) K107
      · refine xi_iff (pc' := 17) kc_163_14 rfl (xc_eq_f (X := x2.toInt) (Y := 0) rfl (by decide) (by omega)) ?_
        refine xi_iload_n (pc' := 18) (x := x2) kc_163_17 rfl rfl ?_
        refine xi_iconst (pc' := 19) (v := 1) kc_163_18 rfl rfl ?_
        by_cases c108 : x2.toInt = 1
        · refine xi_cmt (pc' := 29) kc_163_19 rfl (xc_eq_t (X := x2.toInt) (Y := 1) rfl (by decide) (by omega)) ?_
          refine xi_aload_n (pc' := 30) (x := 0) kc_163_29 rfl rfl ?_
          refine xi_iload_n (pc' := 31) (x := x1) kc_163_30 rfl rfl ?_
          refine xi_iload (pc' := 33) (x := x4) kc_163_31 rfl rfl ?_
          refine xi_iload (pc' := 35) (x := x5) kc_163_33 rfl rfl ?_
          refine xp_0 K.1 (fun u109 u110 bu109 bu110 A111 => ?_)
          refine xi_virtual (mj := 164) (as := [.int x1, .int x4, .int x5]) (st1 := []) (lv0 := [(0, .ref 0), (1, .int x1), (2, .int x4), (3, .int x5)]) kc_163_35 rfl rfl rfl rfl rfl A111 (Nat.le_of_ble_eq_true rfl) (hJ _ _ _ _ (by decide)) (xm_le ml_164 rfl) rfl ?_
          refine mt_164_0 hJ hov1 hov2 (d := d) (x1 := x1) (x2 := x4) (x3 := x5) K.1 (by first | omega | decide) (fun r112 hh113 br112 K114 => ?_)
          have K115 := xk_tr K K114 rfl
          refine xp_0 K115.1 (fun u116 u117 bu116 bu117 A118 => ?_)
          have e119 : u110 = u117 := xk_eqi (q := 9) K114 rfl A111 A118 rfl rfl
          subst e119
          show xw J ov (d + 2) 163 (38, [(0, .ref 0), (1, .int x1), (2, .int x2), (3, .int x3), (4, .int x4), (5, .int x5)], [.int r112], hh113) _
          by_cases c120 : r112.toInt = 0
          · refine xi_ift (pc' := 48) kc_163_38 rfl (xc_eq_t (X := r112.toInt) (Y := 0) rfl (by decide) (by omega)) ?_
            refine xi_iload_n (pc' := 49) (x := x3) kc_163_48 rfl rfl ?_
            by_cases c121 : x3.toInt < 0
            · refine xi_ift (pc' := 68) kc_163_49 rfl (xc_lt_t (X := x3.toInt) (Y := 0) rfl (by decide) (by omega)) ?_
              refine xi_aload_n (pc' := 69) (x := 0) kc_163_68 rfl rfl ?_
              refine xi_bipush (pc' := 71) (v := (-4)) kc_163_69 rfl rfl ?_
              refine xi_virtual (mj := 90) (as := [.int (-4)]) (st1 := []) (lv0 := [(0, .ref 0), (1, .int (-4))]) kc_163_71 rfl rfl rfl rfl rfl A118 (Nat.le_of_ble_eq_true rfl) (hJ _ _ _ _ (by decide)) (xm_le ml_90 rfl) rfl ?_
              refine xi_iload_n (pc' := 1) (x := (-4)) kc_90_0 rfl rfl ?_
              refine xi_ineg (pc' := 2) (v := 4) kc_90_1 rfl rfl ?_
              refine xi_istore_n (pc' := 3) (lv' := [(2, .int 4), (0, .ref 0), (1, .int (-4))]) kc_90_2 rfl rfl (xm_lt ml_90 rfl) ?_
              refine xi_iload_n (pc' := 4) (x := 4) kc_90_3 rfl rfl ?_
              refine xi_iff (pc' := 7) kc_90_4 rfl rfl ?_
              refine xi_iload_n (pc' := 8) (x := 4) kc_90_7 rfl rfl ?_
              refine xi_aload_n (pc' := 9) (x := 0) kc_90_8 rfl rfl ?_
              refine xi_getfield (pc' := 12) (v := .ref 94) kc_90_9 rfl rfl rfl A118 rfl ?_
              refine xcps4 (xk_arr K115.1 xD_94) (fun y122 A122 hy122 ry122 => ?_)
              refine xi_arraylength (pc' := 13) (n := 7) (v := 7) kc_90_12 rfl (xl_lenI (by decide) (by decide) A122 hy122) rfl ?_
              refine xi_cmf (pc' := 16) kc_90_13 rfl rfl ?_
              refine xi_aload_n (pc' := 17) (x := 0) kc_90_16 rfl rfl ?_
              refine xi_getfield (pc' := 20) (v := .ref 94) kc_90_17 rfl rfl rfl A118 rfl ?_
              refine xi_iload_n (pc' := 21) (x := 4) kc_90_20 rfl rfl ?_
              refine xi_dup2 (pc' := 22) kc_90_21 rfl ⟨rfl, rfl⟩ ?_
              refine xcps4 (xj_get hy122 ry122 (i := 4) (by decide) (by decide)) (fun v123 ev123 bv123 dv123 => ?_)
              refine xi_iaload (pc' := 23) (v := v123) kc_90_22 rfl A122 (by decide) rfl (xi_in (by decide) (by rw [hy122]; decide)) ev123 ?_
              refine xi_iconst (pc' := 24) (v := 1) kc_90_23 rfl rfl ?_
              refine xcps2 (α := Int32) ((v123 : Int32) + 1) (fun v124 ev124 => ?_)
              have rv124 := xc_rng v124
              refine xi_iadd (pc' := 25) (v := v124) kc_90_24 rfl ev124 ?_
              refine xcps4 (xj_set (v := v124) hy122 ry122 4 (by first | omega | decide) (by first | omega | decide)) (fun y125 s125 hy125 ry125 => ?_)
              refine xi_iastore (pc' := 26) (x' := y125) kc_90_25 rfl A122 rfl (xi_in (by decide) (by rw [hy122]; decide)) s125 (fun hh125 eh125 => ?_)
              have K126 := xk_pa K115 (xk_wa rfl) xD_94 hy125 ry125 eh125
              refine xi_iload_n (pc' := 27) (x := (-4)) kc_90_26 rfl rfl ?_
              refine xi_ireturn kc_90_27 mr_90 rfl ?_
              show xw J ov (d + 2) 163 (74, [(0, .ref 0), (1, .int x1), (2, .int x2), (3, .int x3), (4, .int x4), (5, .int x5)], [.int (-4)], hh125) _
              refine xi_ireturn kc_163_74 mr_163 rfl ?_
              have zcm4 : ((-4) : Int32).toInt = (-4) := by decide
              exact kk (-4) hh125 (by omega) K126
            · refine xi_iff (pc' := 52) kc_163_49 rfl (xc_lt_f (X := x3.toInt) (Y := 0) rfl (by decide) (by omega)) ?_
              refine xi_iload (pc' := 54) (x := x4) kc_163_52 rfl rfl ?_
              refine xi_aload_n (pc' := 55) (x := 0) kc_163_54 rfl rfl ?_
              refine xi_getfield (pc' := 58) (v := .int u110) kc_163_55 rfl rfl rfl A118 rfl ?_
              by_cases c127 : x4.toInt < u110.toInt
              · refine xi_cmt (pc' := 68) kc_163_58 rfl (xc_lt_t (X := x4.toInt) (Y := u110.toInt) rfl rfl (by omega)) ?_
                refine xi_aload_n (pc' := 69) (x := 0) kc_163_68 rfl rfl ?_
                refine xi_bipush (pc' := 71) (v := (-4)) kc_163_69 rfl rfl ?_
                refine xi_virtual (mj := 90) (as := [.int (-4)]) (st1 := []) (lv0 := [(0, .ref 0), (1, .int (-4))]) kc_163_71 rfl rfl rfl rfl rfl A118 (Nat.le_of_ble_eq_true rfl) (hJ _ _ _ _ (by decide)) (xm_le ml_90 rfl) rfl ?_
                refine xi_iload_n (pc' := 1) (x := (-4)) kc_90_0 rfl rfl ?_
                refine xi_ineg (pc' := 2) (v := 4) kc_90_1 rfl rfl ?_
                refine xi_istore_n (pc' := 3) (lv' := [(2, .int 4), (0, .ref 0), (1, .int (-4))]) kc_90_2 rfl rfl (xm_lt ml_90 rfl) ?_
                refine xi_iload_n (pc' := 4) (x := 4) kc_90_3 rfl rfl ?_
                refine xi_iff (pc' := 7) kc_90_4 rfl rfl ?_
                refine xi_iload_n (pc' := 8) (x := 4) kc_90_7 rfl rfl ?_
                refine xi_aload_n (pc' := 9) (x := 0) kc_90_8 rfl rfl ?_
                refine xi_getfield (pc' := 12) (v := .ref 94) kc_90_9 rfl rfl rfl A118 rfl ?_
                refine xcps4 (xk_arr K115.1 xD_94) (fun y128 A128 hy128 ry128 => ?_)
                refine xi_arraylength (pc' := 13) (n := 7) (v := 7) kc_90_12 rfl (xl_lenI (by decide) (by decide) A128 hy128) rfl ?_
                refine xi_cmf (pc' := 16) kc_90_13 rfl rfl ?_
                refine xi_aload_n (pc' := 17) (x := 0) kc_90_16 rfl rfl ?_
                refine xi_getfield (pc' := 20) (v := .ref 94) kc_90_17 rfl rfl rfl A118 rfl ?_
                refine xi_iload_n (pc' := 21) (x := 4) kc_90_20 rfl rfl ?_
                refine xi_dup2 (pc' := 22) kc_90_21 rfl ⟨rfl, rfl⟩ ?_
                refine xcps4 (xj_get hy128 ry128 (i := 4) (by decide) (by decide)) (fun v129 ev129 bv129 dv129 => ?_)
                refine xi_iaload (pc' := 23) (v := v129) kc_90_22 rfl A128 (by decide) rfl (xi_in (by decide) (by rw [hy128]; decide)) ev129 ?_
                refine xi_iconst (pc' := 24) (v := 1) kc_90_23 rfl rfl ?_
                refine xcps2 (α := Int32) ((v129 : Int32) + 1) (fun v130 ev130 => ?_)
                have rv130 := xc_rng v130
                refine xi_iadd (pc' := 25) (v := v130) kc_90_24 rfl ev130 ?_
                refine xcps4 (xj_set (v := v130) hy128 ry128 4 (by first | omega | decide) (by first | omega | decide)) (fun y131 s131 hy131 ry131 => ?_)
                refine xi_iastore (pc' := 26) (x' := y131) kc_90_25 rfl A128 rfl (xi_in (by decide) (by rw [hy128]; decide)) s131 (fun hh131 eh131 => ?_)
                have K132 := xk_pa K115 (xk_wa rfl) xD_94 hy131 ry131 eh131
                refine xi_iload_n (pc' := 27) (x := (-4)) kc_90_26 rfl rfl ?_
                refine xi_ireturn kc_90_27 mr_90 rfl ?_
                show xw J ov (d + 2) 163 (74, [(0, .ref 0), (1, .int x1), (2, .int x2), (3, .int x3), (4, .int x4), (5, .int x5)], [.int (-4)], hh131) _
                refine xi_ireturn kc_163_74 mr_163 rfl ?_
                have zcm4 : ((-4) : Int32).toInt = (-4) := by decide
                exact kk (-4) hh131 (by omega) K132
              · refine xi_cmf (pc' := 61) kc_163_58 rfl (xc_lt_f (X := x4.toInt) (Y := u110.toInt) rfl rfl (by omega)) ?_
                refine xi_iload (pc' := 63) (x := x5) kc_163_61 rfl rfl ?_
                refine xi_iload (pc' := 65) (x := x4) kc_163_63 rfl rfl ?_
                by_cases c133 : x4.toInt < x5.toInt
                · refine xi_cmt (pc' := 75) kc_163_65 rfl (xc_gt_t (X := x5.toInt) (Y := x4.toInt) rfl rfl (by omega)) ?_
                  refine xi_iload_n (pc' := 76) (x := x3) kc_163_75 rfl rfl ?_
                  refine xi_getstatic (pc' := 79) (j := 1000002) kc_163_76 rfl rfl ?_
                  refine xi_iconst (pc' := 80) (v := 2) kc_163_79 rfl rfl ?_
                  refine xi_ialoadO (pc' := 81) (v := 50) kc_163_80 rfl (by decide) hov2 (xi_in (n := 6) (by decide) (by decide)) rfl ?_
                  by_cases c134 : 50 < x3.toInt
                  · refine xi_cmt (pc' := 101) kc_163_81 rfl (xc_gt_t (X := x3.toInt) (Y := 50) rfl (by decide) (by omega)) ?_
                    refine xi_aload_n (pc' := 102) (x := 0) kc_163_101 rfl rfl ?_
                    refine xi_bipush (pc' := 104) (v := (-6)) kc_163_102 rfl rfl ?_
                    refine xi_virtual (mj := 90) (as := [.int (-6)]) (st1 := []) (lv0 := [(0, .ref 0), (1, .int (-6))]) kc_163_104 rfl rfl rfl rfl rfl A118 (Nat.le_of_ble_eq_true rfl) (hJ _ _ _ _ (by decide)) (xm_le ml_90 rfl) rfl ?_
                    refine xi_iload_n (pc' := 1) (x := (-6)) kc_90_0 rfl rfl ?_
                    refine xi_ineg (pc' := 2) (v := 6) kc_90_1 rfl rfl ?_
                    refine xi_istore_n (pc' := 3) (lv' := [(2, .int 6), (0, .ref 0), (1, .int (-6))]) kc_90_2 rfl rfl (xm_lt ml_90 rfl) ?_
                    refine xi_iload_n (pc' := 4) (x := 6) kc_90_3 rfl rfl ?_
                    refine xi_iff (pc' := 7) kc_90_4 rfl rfl ?_
                    refine xi_iload_n (pc' := 8) (x := 6) kc_90_7 rfl rfl ?_
                    refine xi_aload_n (pc' := 9) (x := 0) kc_90_8 rfl rfl ?_
                    refine xi_getfield (pc' := 12) (v := .ref 94) kc_90_9 rfl rfl rfl A118 rfl ?_
                    refine xcps4 (xk_arr K115.1 xD_94) (fun y135 A135 hy135 ry135 => ?_)
                    refine xi_arraylength (pc' := 13) (n := 7) (v := 7) kc_90_12 rfl (xl_lenI (by decide) (by decide) A135 hy135) rfl ?_
                    refine xi_cmf (pc' := 16) kc_90_13 rfl rfl ?_
                    refine xi_aload_n (pc' := 17) (x := 0) kc_90_16 rfl rfl ?_
                    refine xi_getfield (pc' := 20) (v := .ref 94) kc_90_17 rfl rfl rfl A118 rfl ?_
                    refine xi_iload_n (pc' := 21) (x := 6) kc_90_20 rfl rfl ?_
                    refine xi_dup2 (pc' := 22) kc_90_21 rfl ⟨rfl, rfl⟩ ?_
                    refine xcps4 (xj_get hy135 ry135 (i := 6) (by decide) (by decide)) (fun v136 ev136 bv136 dv136 => ?_)
                    refine xi_iaload (pc' := 23) (v := v136) kc_90_22 rfl A135 (by decide) rfl (xi_in (by decide) (by rw [hy135]; decide)) ev136 ?_
                    refine xi_iconst (pc' := 24) (v := 1) kc_90_23 rfl rfl ?_
                    refine xcps2 (α := Int32) ((v136 : Int32) + 1) (fun v137 ev137 => ?_)
                    have rv137 := xc_rng v137
                    refine xi_iadd (pc' := 25) (v := v137) kc_90_24 rfl ev137 ?_
                    refine xcps4 (xj_set (v := v137) hy135 ry135 6 (by first | omega | decide) (by first | omega | decide)) (fun y138 s138 hy138 ry138 => ?_)
                    refine xi_iastore (pc' := 26) (x' := y138) kc_90_25 rfl A135 rfl (xi_in (by decide) (by rw [hy135]; decide)) s138 (fun hh138 eh138 => ?_)
                    have K139 := xk_pa K115 (xk_wa rfl) xD_94 hy138 ry138 eh138
                    refine xi_iload_n (pc' := 27) (x := (-6)) kc_90_26 rfl rfl ?_
                    refine xi_ireturn kc_90_27 mr_90 rfl ?_
                    show xw J ov (d + 2) 163 (107, [(0, .ref 0), (1, .int x1), (2, .int x2), (3, .int x3), (4, .int x4), (5, .int x5)], [.int (-6)], hh138) _
                    refine xi_ireturn kc_163_107 mr_163 rfl ?_
                    have zcm6 : ((-6) : Int32).toInt = (-6) := by decide
                    exact kk (-6) hh138 (by omega) K139
                  · refine xi_cmf (pc' := 84) kc_163_81 rfl (xc_gt_f (X := x3.toInt) (Y := 50) rfl (by decide) (by omega)) ?_
                    refine xi_iload (pc' := 86) (x := x5) kc_163_84 rfl rfl ?_
                    refine xi_sipush (pc' := 89) (v := 600) kc_163_86 rfl rfl ?_
                    by_cases c140 : 600 < x5.toInt
                    · refine xi_cmt (pc' := 101) kc_163_89 rfl (xc_gt_t (X := x5.toInt) (Y := 600) rfl (by decide) (by omega)) ?_
                      refine xi_aload_n (pc' := 102) (x := 0) kc_163_101 rfl rfl ?_
                      refine xi_bipush (pc' := 104) (v := (-6)) kc_163_102 rfl rfl ?_
                      refine xi_virtual (mj := 90) (as := [.int (-6)]) (st1 := []) (lv0 := [(0, .ref 0), (1, .int (-6))]) kc_163_104 rfl rfl rfl rfl rfl A118 (Nat.le_of_ble_eq_true rfl) (hJ _ _ _ _ (by decide)) (xm_le ml_90 rfl) rfl ?_
                      refine xi_iload_n (pc' := 1) (x := (-6)) kc_90_0 rfl rfl ?_
                      refine xi_ineg (pc' := 2) (v := 6) kc_90_1 rfl rfl ?_
                      refine xi_istore_n (pc' := 3) (lv' := [(2, .int 6), (0, .ref 0), (1, .int (-6))]) kc_90_2 rfl rfl (xm_lt ml_90 rfl) ?_
                      refine xi_iload_n (pc' := 4) (x := 6) kc_90_3 rfl rfl ?_
                      refine xi_iff (pc' := 7) kc_90_4 rfl rfl ?_
                      refine xi_iload_n (pc' := 8) (x := 6) kc_90_7 rfl rfl ?_
                      refine xi_aload_n (pc' := 9) (x := 0) kc_90_8 rfl rfl ?_
                      refine xi_getfield (pc' := 12) (v := .ref 94) kc_90_9 rfl rfl rfl A118 rfl ?_
                      refine xcps4 (xk_arr K115.1 xD_94) (fun y141 A141 hy141 ry141 => ?_)
                      refine xi_arraylength (pc' := 13) (n := 7) (v := 7) kc_90_12 rfl (xl_lenI (by decide) (by decide) A141 hy141) rfl ?_
                      refine xi_cmf (pc' := 16) kc_90_13 rfl rfl ?_
                      refine xi_aload_n (pc' := 17) (x := 0) kc_90_16 rfl rfl ?_
                      refine xi_getfield (pc' := 20) (v := .ref 94) kc_90_17 rfl rfl rfl A118 rfl ?_
                      refine xi_iload_n (pc' := 21) (x := 6) kc_90_20 rfl rfl ?_
                      refine xi_dup2 (pc' := 22) kc_90_21 rfl ⟨rfl, rfl⟩ ?_
                      refine xcps4 (xj_get hy141 ry141 (i := 6) (by decide) (by decide)) (fun v142 ev142 bv142 dv142 => ?_)
                      refine xi_iaload (pc' := 23) (v := v142) kc_90_22 rfl A141 (by decide) rfl (xi_in (by decide) (by rw [hy141]; decide)) ev142 ?_
                      refine xi_iconst (pc' := 24) (v := 1) kc_90_23 rfl rfl ?_
                      refine xcps2 (α := Int32) ((v142 : Int32) + 1) (fun v143 ev143 => ?_)
                      have rv143 := xc_rng v143
                      refine xi_iadd (pc' := 25) (v := v143) kc_90_24 rfl ev143 ?_
                      refine xcps4 (xj_set (v := v143) hy141 ry141 6 (by first | omega | decide) (by first | omega | decide)) (fun y144 s144 hy144 ry144 => ?_)
                      refine xi_iastore (pc' := 26) (x' := y144) kc_90_25 rfl A141 rfl (xi_in (by decide) (by rw [hy141]; decide)) s144 (fun hh144 eh144 => ?_)
                      have K145 := xk_pa K115 (xk_wa rfl) xD_94 hy144 ry144 eh144
                      refine xi_iload_n (pc' := 27) (x := (-6)) kc_90_26 rfl rfl ?_
                      refine xi_ireturn kc_90_27 mr_90 rfl ?_
                      show xw J ov (d + 2) 163 (107, [(0, .ref 0), (1, .int x1), (2, .int x2), (3, .int x3), (4, .int x4), (5, .int x5)], [.int (-6)], hh144) _
                      refine xi_ireturn kc_163_107 mr_163 rfl ?_
                      have zcm6 : ((-6) : Int32).toInt = (-6) := by decide
                      exact kk (-6) hh144 (by omega) K145
                    · refine xi_cmf (pc' := 92) kc_163_89 rfl (xc_gt_f (X := x5.toInt) (Y := 600) rfl (by decide) (by omega)) ?_
                      refine xi_aload_n (pc' := 93) (x := 0) kc_163_92 rfl rfl ?_
                      refine xi_getfield (pc' := 96) (v := .int u116) kc_163_93 rfl rfl rfl A118 rfl ?_
                      refine xi_bipush (pc' := 98) (v := 20) kc_163_96 rfl rfl ?_
                      by_cases c146 : u116.toInt < 20
                      · refine xi_cmt (pc' := 108) kc_163_98 rfl (xc_lt_t (X := u116.toInt) (Y := 20) rfl (by decide) (by omega)) ?_
                        refine xi_aload_n (pc' := 109) (x := 0) kc_163_108 rfl rfl ?_
                        refine xi_getfield (pc' := 112) (v := .ref 93) kc_163_109 rfl rfl rfl A118 rfl ?_
                        refine xi_aload_n (pc' := 113) (x := 0) kc_163_112 rfl rfl ?_
                        refine xi_getfield (pc' := 116) (v := .int u116) kc_163_113 rfl rfl rfl A118 rfl ?_
                        have A147 := xk_ex K115.1 xD_93
                        obtain ⟨pt148, ept148, mpt148⟩ := xR_93 (i := u116) (by omega) (by omega)
                        refine xj_aaload (pc' := 117) (b := pt148) kc_163_116 rfl A147 rfl (xi_in (n := 20) (by omega) (by omega)) ept148 ?_
                        refine xi_astore (pc' := 119) (lv' := [(6, .ref pt148), (0, .ref 0), (1, .int x1), (2, .int x2), (3, .int x3), (4, .int x4), (5, .int x5)]) kc_163_117 rfl rfl (xm_lt ml_163 rfl) ?_
                        refine xi_aload (pc' := 121) (x := pt148) kc_163_119 rfl rfl ?_
                        refine xi_iload_n (pc' := 122) (x := x1) kc_163_121 rfl rfl ?_
                        obtain ⟨u149, u150, u151, u152, u153, u154, bu149, bu150, bu151, bu152, bu153, bu154, A155⟩ := xg_trial K115.1 mpt148
                        refine xi_putfield (pc' := 125) (fs' := [.int x1, .int u150, .int u151, .int u152, .int u153, .int u154]) kc_163_122 rfl rfl rfl A155 rfl rfl rfl (Nat.le_of_ble_eq_true rfl) rfl (fun hh157 eh156 => ?_)
                        obtain ⟨ds158, Dds158, dds158_0, dds158_1, dds158_2, dds158_3, dds158_4, dds158_5⟩ := xGo_trial mpt148
                        have K159 := xk_pf (k := 0) (v := x1) K115 (xk_gf mpt148 rfl) Dds158 A155 dds158_0 (by first | omega | decide) (by first | omega | decide) eh156 rfl
                        refine xi_aload (pc' := 127) (x := pt148) kc_163_125 rfl rfl ?_
                        refine xi_iload_n (pc' := 128) (x := x2) kc_163_127 rfl rfl ?_
                        refine xi_ift (pc' := 135) kc_163_128 rfl (xc_ne_t (X := x2.toInt) (Y := 0) rfl (by decide) (by omega)) ?_
                        refine xi_iconst (pc' := 136) (v := 2) kc_163_135 rfl rfl ?_
                        refine xi_putfield (pc' := 139) (fs' := [.int x1, .int 2, .int u151, .int u152, .int u153, .int u154]) kc_163_136 rfl rfl rfl eh156.1 rfl rfl rfl (Nat.le_of_ble_eq_true rfl) rfl (fun hh161 eh160 => ?_)
                        obtain ⟨ds162, Dds162, dds162_0, dds162_1, dds162_2, dds162_3, dds162_4, dds162_5⟩ := xGo_trial mpt148
                        have K163 := xk_pf (k := 1) (v := 2) K159 (xk_gf mpt148 rfl) Dds162 eh156.1 dds162_1 (by first | omega | decide) (by first | omega | decide) eh160 rfl
                        refine xi_aload (pc' := 141) (x := pt148) kc_163_139 rfl rfl ?_
                        refine xi_iload_n (pc' := 142) (x := x2) kc_163_141 rfl rfl ?_
                        refine xi_ift (pc' := 149) kc_163_142 rfl (xc_ne_t (X := x2.toInt) (Y := 0) rfl (by decide) (by omega)) ?_
                        refine xi_iload_n (pc' := 150) (x := x3) kc_163_149 rfl rfl ?_
                        refine xi_putfield (pc' := 153) (fs' := [.int x1, .int 2, .int x3, .int u152, .int u153, .int u154]) kc_163_150 rfl rfl rfl eh160.1 rfl rfl rfl (Nat.le_of_ble_eq_true rfl) rfl (fun hh165 eh164 => ?_)
                        obtain ⟨ds166, Dds166, dds166_0, dds166_1, dds166_2, dds166_3, dds166_4, dds166_5⟩ := xGo_trial mpt148
                        have K167 := xk_pf (k := 2) (v := x3) K163 (xk_gf mpt148 rfl) Dds166 eh160.1 dds166_2 (by first | omega | decide) (by first | omega | decide) eh164 rfl
                        refine xi_aload (pc' := 155) (x := pt148) kc_163_153 rfl rfl ?_
                        refine xi_iload (pc' := 157) (x := x4) kc_163_155 rfl rfl ?_
                        refine xi_putfield (pc' := 160) (fs' := [.int x1, .int 2, .int x3, .int x4, .int u153, .int u154]) kc_163_157 rfl rfl rfl eh164.1 rfl rfl rfl (Nat.le_of_ble_eq_true rfl) rfl (fun hh169 eh168 => ?_)
                        obtain ⟨ds170, Dds170, dds170_0, dds170_1, dds170_2, dds170_3, dds170_4, dds170_5⟩ := xGo_trial mpt148
                        have K171 := xk_pf (k := 3) (v := x4) K167 (xk_gf mpt148 rfl) Dds170 eh164.1 dds170_3 (by first | omega | decide) (by first | omega | decide) eh168 rfl
                        refine xi_aload (pc' := 162) (x := pt148) kc_163_160 rfl rfl ?_
                        refine xi_iload (pc' := 164) (x := x5) kc_163_162 rfl rfl ?_
                        refine xi_putfield (pc' := 167) (fs' := [.int x1, .int 2, .int x3, .int x4, .int x5, .int u154]) kc_163_164 rfl rfl rfl eh168.1 rfl rfl rfl (Nat.le_of_ble_eq_true rfl) rfl (fun hh173 eh172 => ?_)
                        obtain ⟨ds174, Dds174, dds174_0, dds174_1, dds174_2, dds174_3, dds174_4, dds174_5⟩ := xGo_trial mpt148
                        have K175 := xk_pf (k := 4) (v := x5) K171 (xk_gf mpt148 rfl) Dds174 eh168.1 dds174_4 (by first | omega | decide) (by first | omega | decide) eh172 rfl
                        refine xi_aload_n (pc' := 168) (x := 0) kc_163_167 rfl rfl ?_
                        refine xi_dup (pc' := 169) kc_163_168 rfl rfl ?_
                        have A176 := ((eh172.2.1 0 (xk_nc mpt148 rfl)).trans ((eh168.2.1 0 (xk_nc mpt148 rfl)).trans ((eh164.2.1 0 (xk_nc mpt148 rfl)).trans ((eh160.2.1 0 (xk_nc mpt148 rfl)).trans ((eh156.2.1 0 (xk_nc mpt148 rfl)).trans A118)))))
                        refine xi_getfield (pc' := 172) (v := .int u116) kc_163_169 rfl rfl rfl A176 rfl ?_
                        refine xi_iconst (pc' := 173) (v := 1) kc_163_172 rfl rfl ?_
                        refine xcps2 (α := Int32) (u116 + 1) (fun v177 ev177 => ?_)
                        have zv177 : v177.toInt = (u116.toInt + 1) := by rw [← ev177]; exact (xz_add (X := u116.toInt) (Y := 1) rfl (by decide) (by omega) (by omega)).trans (by omega)
                        refine xi_iadd (pc' := 174) (v := v177) kc_163_173 rfl ev177 ?_
                        refine xi_putfield (pc' := 177) (fs' := [.ref 1, .ref 63, .ref 66, .ref 75, .ref 80, .ref 85, .ref 93, .ref 94, .int v177, .int u110]) kc_163_174 rfl rfl rfl A176 rfl rfl rfl (Nat.le_of_ble_eq_true rfl) rfl (fun hh179 eh178 => ?_)
                        have K180 := xk_pf (k := 8) (v := v177) K175 (xk_wf rfl) xD_0 A176 rfl (by first | omega | decide) (by first | omega | decide) eh178 rfl
                        refine xi_aload_n (pc' := 178) (x := 0) kc_163_177 rfl rfl ?_
                        refine xi_getfield (pc' := 181) (v := .int v177) kc_163_178 rfl rfl rfl eh178.1 rfl ?_
                        refine xi_iconst (pc' := 182) (v := 1) kc_163_181 rfl rfl ?_
                        refine xcps2 (α := Int32) (v177 - 1) (fun v181 ev181 => ?_)
                        have zv181 : v181.toInt = u116.toInt := by rw [← ev181]; exact (xz_sub (X := (u116.toInt + 1)) (Y := 1) zv177 (by decide) (by omega) (by omega)).trans (by omega)
                        refine xi_isub (pc' := 183) (v := v181) kc_163_182 rfl ev181 ?_
                        refine xi_ireturn kc_163_183 mr_163 rfl ?_
                        exact kk v181 hh179 (by omega) K180
                      · refine xi_cmf (pc' := 101) kc_163_98 rfl (xc_lt_f (X := u116.toInt) (Y := 20) rfl (by decide) (by omega)) ?_
                        refine xi_aload_n (pc' := 102) (x := 0) kc_163_101 rfl rfl ?_
                        refine xi_bipush (pc' := 104) (v := (-6)) kc_163_102 rfl rfl ?_
                        refine xi_virtual (mj := 90) (as := [.int (-6)]) (st1 := []) (lv0 := [(0, .ref 0), (1, .int (-6))]) kc_163_104 rfl rfl rfl rfl rfl A118 (Nat.le_of_ble_eq_true rfl) (hJ _ _ _ _ (by decide)) (xm_le ml_90 rfl) rfl ?_
                        refine xi_iload_n (pc' := 1) (x := (-6)) kc_90_0 rfl rfl ?_
                        refine xi_ineg (pc' := 2) (v := 6) kc_90_1 rfl rfl ?_
                        refine xi_istore_n (pc' := 3) (lv' := [(2, .int 6), (0, .ref 0), (1, .int (-6))]) kc_90_2 rfl rfl (xm_lt ml_90 rfl) ?_
                        refine xi_iload_n (pc' := 4) (x := 6) kc_90_3 rfl rfl ?_
                        refine xi_iff (pc' := 7) kc_90_4 rfl rfl ?_
                        refine xi_iload_n (pc' := 8) (x := 6) kc_90_7 rfl rfl ?_
                        refine xi_aload_n (pc' := 9) (x := 0) kc_90_8 rfl rfl ?_
                        refine xi_getfield (pc' := 12) (v := .ref 94) kc_90_9 rfl rfl rfl A118 rfl ?_
                        refine xcps4 (xk_arr K115.1 xD_94) (fun y182 A182 hy182 ry182 => ?_)
                        refine xi_arraylength (pc' := 13) (n := 7) (v := 7) kc_90_12 rfl (xl_lenI (by decide) (by decide) A182 hy182) rfl ?_
                        refine xi_cmf (pc' := 16) kc_90_13 rfl rfl ?_
                        refine xi_aload_n (pc' := 17) (x := 0) kc_90_16 rfl rfl ?_
                        refine xi_getfield (pc' := 20) (v := .ref 94) kc_90_17 rfl rfl rfl A118 rfl ?_
                        refine xi_iload_n (pc' := 21) (x := 6) kc_90_20 rfl rfl ?_
                        refine xi_dup2 (pc' := 22) kc_90_21 rfl ⟨rfl, rfl⟩ ?_
                        refine xcps4 (xj_get hy182 ry182 (i := 6) (by decide) (by decide)) (fun v183 ev183 bv183 dv183 => ?_)
                        refine xi_iaload (pc' := 23) (v := v183) kc_90_22 rfl A182 (by decide) rfl (xi_in (by decide) (by rw [hy182]; decide)) ev183 ?_
                        refine xi_iconst (pc' := 24) (v := 1) kc_90_23 rfl rfl ?_
                        refine xcps2 (α := Int32) ((v183 : Int32) + 1) (fun v184 ev184 => ?_)
                        have rv184 := xc_rng v184
                        refine xi_iadd (pc' := 25) (v := v184) kc_90_24 rfl ev184 ?_
                        refine xcps4 (xj_set (v := v184) hy182 ry182 6 (by first | omega | decide) (by first | omega | decide)) (fun y185 s185 hy185 ry185 => ?_)
                        refine xi_iastore (pc' := 26) (x' := y185) kc_90_25 rfl A182 rfl (xi_in (by decide) (by rw [hy182]; decide)) s185 (fun hh185 eh185 => ?_)
                        have K186 := xk_pa K115 (xk_wa rfl) xD_94 hy185 ry185 eh185
                        refine xi_iload_n (pc' := 27) (x := (-6)) kc_90_26 rfl rfl ?_
                        refine xi_ireturn kc_90_27 mr_90 rfl ?_
                        show xw J ov (d + 2) 163 (107, [(0, .ref 0), (1, .int x1), (2, .int x2), (3, .int x3), (4, .int x4), (5, .int x5)], [.int (-6)], hh185) _
                        refine xi_ireturn kc_163_107 mr_163 rfl ?_
                        have zcm6 : ((-6) : Int32).toInt = (-6) := by decide
                        exact kk (-6) hh185 (by omega) K186
                · refine xi_cmf (pc' := 68) kc_163_65 rfl (xc_gt_f (X := x5.toInt) (Y := x4.toInt) rfl rfl (by omega)) ?_
                  refine xi_aload_n (pc' := 69) (x := 0) kc_163_68 rfl rfl ?_
                  refine xi_bipush (pc' := 71) (v := (-4)) kc_163_69 rfl rfl ?_
                  refine xi_virtual (mj := 90) (as := [.int (-4)]) (st1 := []) (lv0 := [(0, .ref 0), (1, .int (-4))]) kc_163_71 rfl rfl rfl rfl rfl A118 (Nat.le_of_ble_eq_true rfl) (hJ _ _ _ _ (by decide)) (xm_le ml_90 rfl) rfl ?_
                  refine xi_iload_n (pc' := 1) (x := (-4)) kc_90_0 rfl rfl ?_
                  refine xi_ineg (pc' := 2) (v := 4) kc_90_1 rfl rfl ?_
                  refine xi_istore_n (pc' := 3) (lv' := [(2, .int 4), (0, .ref 0), (1, .int (-4))]) kc_90_2 rfl rfl (xm_lt ml_90 rfl) ?_
                  refine xi_iload_n (pc' := 4) (x := 4) kc_90_3 rfl rfl ?_
                  refine xi_iff (pc' := 7) kc_90_4 rfl rfl ?_
                  refine xi_iload_n (pc' := 8) (x := 4) kc_90_7 rfl rfl ?_
                  refine xi_aload_n (pc' := 9) (x := 0) kc_90_8 rfl rfl ?_
                  refine xi_getfield (pc' := 12) (v := .ref 94) kc_90_9 rfl rfl rfl A118 rfl ?_
                  refine xcps4 (xk_arr K115.1 xD_94) (fun y187 A187 hy187 ry187 => ?_)
                  refine xi_arraylength (pc' := 13) (n := 7) (v := 7) kc_90_12 rfl (xl_lenI (by decide) (by decide) A187 hy187) rfl ?_
                  refine xi_cmf (pc' := 16) kc_90_13 rfl rfl ?_
                  refine xi_aload_n (pc' := 17) (x := 0) kc_90_16 rfl rfl ?_
                  refine xi_getfield (pc' := 20) (v := .ref 94) kc_90_17 rfl rfl rfl A118 rfl ?_
                  refine xi_iload_n (pc' := 21) (x := 4) kc_90_20 rfl rfl ?_
                  refine xi_dup2 (pc' := 22) kc_90_21 rfl ⟨rfl, rfl⟩ ?_
                  refine xcps4 (xj_get hy187 ry187 (i := 4) (by decide) (by decide)) (fun v188 ev188 bv188 dv188 => ?_)
                  refine xi_iaload (pc' := 23) (v := v188) kc_90_22 rfl A187 (by decide) rfl (xi_in (by decide) (by rw [hy187]; decide)) ev188 ?_
                  refine xi_iconst (pc' := 24) (v := 1) kc_90_23 rfl rfl ?_
                  refine xcps2 (α := Int32) ((v188 : Int32) + 1) (fun v189 ev189 => ?_)
                  have rv189 := xc_rng v189
                  refine xi_iadd (pc' := 25) (v := v189) kc_90_24 rfl ev189 ?_
                  refine xcps4 (xj_set (v := v189) hy187 ry187 4 (by first | omega | decide) (by first | omega | decide)) (fun y190 s190 hy190 ry190 => ?_)
                  refine xi_iastore (pc' := 26) (x' := y190) kc_90_25 rfl A187 rfl (xi_in (by decide) (by rw [hy187]; decide)) s190 (fun hh190 eh190 => ?_)
                  have K191 := xk_pa K115 (xk_wa rfl) xD_94 hy190 ry190 eh190
                  refine xi_iload_n (pc' := 27) (x := (-4)) kc_90_26 rfl rfl ?_
                  refine xi_ireturn kc_90_27 mr_90 rfl ?_
                  show xw J ov (d + 2) 163 (74, [(0, .ref 0), (1, .int x1), (2, .int x2), (3, .int x3), (4, .int x4), (5, .int x5)], [.int (-4)], hh190) _
                  refine xi_ireturn kc_163_74 mr_163 rfl ?_
                  have zcm4 : ((-4) : Int32).toInt = (-4) := by decide
                  exact kk (-4) hh190 (by omega) K191
          · refine xi_iff (pc' := 41) kc_163_38 rfl (xc_eq_f (X := r112.toInt) (Y := 0) rfl (by decide) (by omega)) ?_
            refine xi_aload_n (pc' := 42) (x := 0) kc_163_41 rfl rfl ?_
            refine xi_bipush (pc' := 44) (v := (-3)) kc_163_42 rfl rfl ?_
            refine xi_virtual (mj := 90) (as := [.int (-3)]) (st1 := []) (lv0 := [(0, .ref 0), (1, .int (-3))]) kc_163_44 rfl rfl rfl rfl rfl A118 (Nat.le_of_ble_eq_true rfl) (hJ _ _ _ _ (by decide)) (xm_le ml_90 rfl) rfl ?_
            refine xi_iload_n (pc' := 1) (x := (-3)) kc_90_0 rfl rfl ?_
            refine xi_ineg (pc' := 2) (v := 3) kc_90_1 rfl rfl ?_
            refine xi_istore_n (pc' := 3) (lv' := [(2, .int 3), (0, .ref 0), (1, .int (-3))]) kc_90_2 rfl rfl (xm_lt ml_90 rfl) ?_
            refine xi_iload_n (pc' := 4) (x := 3) kc_90_3 rfl rfl ?_
            refine xi_iff (pc' := 7) kc_90_4 rfl rfl ?_
            refine xi_iload_n (pc' := 8) (x := 3) kc_90_7 rfl rfl ?_
            refine xi_aload_n (pc' := 9) (x := 0) kc_90_8 rfl rfl ?_
            refine xi_getfield (pc' := 12) (v := .ref 94) kc_90_9 rfl rfl rfl A118 rfl ?_
            refine xcps4 (xk_arr K115.1 xD_94) (fun y192 A192 hy192 ry192 => ?_)
            refine xi_arraylength (pc' := 13) (n := 7) (v := 7) kc_90_12 rfl (xl_lenI (by decide) (by decide) A192 hy192) rfl ?_
            refine xi_cmf (pc' := 16) kc_90_13 rfl rfl ?_
            refine xi_aload_n (pc' := 17) (x := 0) kc_90_16 rfl rfl ?_
            refine xi_getfield (pc' := 20) (v := .ref 94) kc_90_17 rfl rfl rfl A118 rfl ?_
            refine xi_iload_n (pc' := 21) (x := 3) kc_90_20 rfl rfl ?_
            refine xi_dup2 (pc' := 22) kc_90_21 rfl ⟨rfl, rfl⟩ ?_
            refine xcps4 (xj_get hy192 ry192 (i := 3) (by decide) (by decide)) (fun v193 ev193 bv193 dv193 => ?_)
            refine xi_iaload (pc' := 23) (v := v193) kc_90_22 rfl A192 (by decide) rfl (xi_in (by decide) (by rw [hy192]; decide)) ev193 ?_
            refine xi_iconst (pc' := 24) (v := 1) kc_90_23 rfl rfl ?_
            refine xcps2 (α := Int32) ((v193 : Int32) + 1) (fun v194 ev194 => ?_)
            have rv194 := xc_rng v194
            refine xi_iadd (pc' := 25) (v := v194) kc_90_24 rfl ev194 ?_
            refine xcps4 (xj_set (v := v194) hy192 ry192 3 (by first | omega | decide) (by first | omega | decide)) (fun y195 s195 hy195 ry195 => ?_)
            refine xi_iastore (pc' := 26) (x' := y195) kc_90_25 rfl A192 rfl (xi_in (by decide) (by rw [hy192]; decide)) s195 (fun hh195 eh195 => ?_)
            have K196 := xk_pa K115 (xk_wa rfl) xD_94 hy195 ry195 eh195
            refine xi_iload_n (pc' := 27) (x := (-3)) kc_90_26 rfl rfl ?_
            refine xi_ireturn kc_90_27 mr_90 rfl ?_
            show xw J ov (d + 2) 163 (47, [(0, .ref 0), (1, .int x1), (2, .int x2), (3, .int x3), (4, .int x4), (5, .int x5)], [.int (-3)], hh195) _
            refine xi_ireturn kc_163_47 mr_163 rfl ?_
            have zcm3 : ((-3) : Int32).toInt = (-3) := by decide
            exact kk (-3) hh195 (by omega) K196
        · refine xi_cmf (pc' := 22) kc_163_19 rfl (xc_eq_f (X := x2.toInt) (Y := 1) rfl (by decide) (by omega)) ?_
          refine xi_aload_n (pc' := 23) (x := 0) kc_163_22 rfl rfl ?_
          refine xi_bipush (pc' := 25) (v := (-2)) kc_163_23 rfl rfl ?_
          refine xp_0 K.1 (fun u197 u198 bu197 bu198 A199 => ?_)
          refine xi_virtual (mj := 90) (as := [.int (-2)]) (st1 := []) (lv0 := [(0, .ref 0), (1, .int (-2))]) kc_163_25 rfl rfl rfl rfl rfl A199 (Nat.le_of_ble_eq_true rfl) (hJ _ _ _ _ (by decide)) (xm_le ml_90 rfl) rfl ?_
          refine xi_iload_n (pc' := 1) (x := (-2)) kc_90_0 rfl rfl ?_
          refine xi_ineg (pc' := 2) (v := 2) kc_90_1 rfl rfl ?_
          refine xi_istore_n (pc' := 3) (lv' := [(2, .int 2), (0, .ref 0), (1, .int (-2))]) kc_90_2 rfl rfl (xm_lt ml_90 rfl) ?_
          refine xi_iload_n (pc' := 4) (x := 2) kc_90_3 rfl rfl ?_
          refine xi_iff (pc' := 7) kc_90_4 rfl rfl ?_
          refine xi_iload_n (pc' := 8) (x := 2) kc_90_7 rfl rfl ?_
          refine xi_aload_n (pc' := 9) (x := 0) kc_90_8 rfl rfl ?_
          refine xi_getfield (pc' := 12) (v := .ref 94) kc_90_9 rfl rfl rfl A199 rfl ?_
          refine xcps4 (xk_arr K.1 xD_94) (fun y200 A200 hy200 ry200 => ?_)
          refine xi_arraylength (pc' := 13) (n := 7) (v := 7) kc_90_12 rfl (xl_lenI (by decide) (by decide) A200 hy200) rfl ?_
          refine xi_cmf (pc' := 16) kc_90_13 rfl rfl ?_
          refine xi_aload_n (pc' := 17) (x := 0) kc_90_16 rfl rfl ?_
          refine xi_getfield (pc' := 20) (v := .ref 94) kc_90_17 rfl rfl rfl A199 rfl ?_
          refine xi_iload_n (pc' := 21) (x := 2) kc_90_20 rfl rfl ?_
          refine xi_dup2 (pc' := 22) kc_90_21 rfl ⟨rfl, rfl⟩ ?_
          refine xcps4 (xj_get hy200 ry200 (i := 2) (by decide) (by decide)) (fun v201 ev201 bv201 dv201 => ?_)
          refine xi_iaload (pc' := 23) (v := v201) kc_90_22 rfl A200 (by decide) rfl (xi_in (by decide) (by rw [hy200]; decide)) ev201 ?_
          refine xi_iconst (pc' := 24) (v := 1) kc_90_23 rfl rfl ?_
          refine xcps2 (α := Int32) ((v201 : Int32) + 1) (fun v202 ev202 => ?_)
          have rv202 := xc_rng v202
          refine xi_iadd (pc' := 25) (v := v202) kc_90_24 rfl ev202 ?_
          refine xcps4 (xj_set (v := v202) hy200 ry200 2 (by first | omega | decide) (by first | omega | decide)) (fun y203 s203 hy203 ry203 => ?_)
          refine xi_iastore (pc' := 26) (x' := y203) kc_90_25 rfl A200 rfl (xi_in (by decide) (by rw [hy200]; decide)) s203 (fun hh203 eh203 => ?_)
          have K204 := xk_pa K (xk_wa rfl) xD_94 hy203 ry203 eh203
          refine xi_iload_n (pc' := 27) (x := (-2)) kc_90_26 rfl rfl ?_
          refine xi_ireturn kc_90_27 mr_90 rfl ?_
          show xw J ov (d + 2) 163 (28, [(0, .ref 0), (1, .int x1), (2, .int x2), (3, .int x3), (4, .int x4), (5, .int x5)], [.int (-2)], hh203) _
          refine xi_ireturn kc_163_28 mr_163 rfl ?_
          have zcm2 : ((-2) : Int32).toInt = (-2) := by decide
          exact kk (-2) hh203 (by omega) K204
