set_option maxHeartbeats 4000000 in
theorem mt_55_0 {J : xe_J} {ov : List (List Int32)} (hJ : ∀ d mj as h, mj ≠ xe_loff → J d mj as h = none) (hov1 : ov[1]? = some [10, 0, 0, 0, 0, 0]) (hov2 : ov[2]? = some [99, 30, 50, 50, 1, 99999]) {d : Nat} {Q : Option Value → xe_H → Prop} {h : xe_H} {x1 : Int32} {x2 : Int32} (T : xt h) (kk : (∀ (r : Int32) (h' : xe_H), ((-6) ≤ r.toInt ∧ r.toInt ≤ 7) → xk [(0, 9), (115, 1), (83, 0), (29, 0), (31, 0), (33, 0), (35, 0), (37, 0), (39, 0), (41, 0), (43, 0), (45, 0), (47, 0), (49, 0), (51, 0), (125, 0), (66, 8), (115, 18), (71, 0), (132, 0)] h h' → Q (some (.int r)) h')) : xw J ov (d + 1) 55 (0, [(0, .ref 115), (1, .int x1), (2, .int x2)], [], h) Q := by
  have K : xk [(0, 9), (115, 1), (83, 0), (29, 0), (31, 0), (33, 0), (35, 0), (37, 0), (39, 0), (41, 0), (43, 0), (45, 0), (47, 0), (49, 0), (51, 0), (125, 0), (66, 8), (115, 18), (71, 0), (132, 0)] h h := xk_re T
  have rx1 := xc_rng x1
  have rx2 := xc_rng x2
  refine xi_aload_n (pc' := 1) (x := 115) kc_55_0 rfl rfl ?_
  refine xi_iconst (pc' := 2) (v := 0) kc_55_1 rfl rfl ?_
  refine xp_115 K.1 (fun u1 u2 u3 u4 u5 u6 u7 u8 u9 u10 u11 u12 u13 bu1 bu2 bu3 bu4 bu5 bu6 bu7 bu8 bu9 bu10 bu11 bu12 bu13 A14 => ?_)
  refine xi_putfield (pc' := 5) (fs' := [.int 0, .int u2, .ref 116, .ref 117, .ref 118, .ref 119, .ref 120, .ref 121, .ref 122, .ref 123, .ref 124, .ref 125, .ref 126, .ref 127, .ref 128, .ref 129, .int u3, .ref 130, .int u4, .ref 131, .ref 132, .ref 133, .ref 134, .int u5, .ref 135, .ref 136, .ref 137, .ref 138, .ref 139, .ref 140, .ref 141, .ref 142, .int u6, .int u7, .int u8, .ref 143, .ref 144, .ref 145, .ref 146, .ref 147, .ref 148, .int u9, .ref 149, .ref 150, .ref 151, .int u10, .ref 152, .ref 153, .ref 154, .ref 155, .ref 156, .ref 157, .ref 158, .ref 159, .int u11, .ref 160, .int u12, .ref 161, .ref 162, .ref 163, .ref 164, .int u13, .ref 165, .ref 166]) kc_55_2 rfl rfl rfl A14 rfl rfl rfl (Nat.le_of_ble_eq_true rfl) rfl (fun hh16 eh15 => ?_)
  have K17 := xk_pf (k := 0) (v := 0) K (xk_wf rfl) xD_115 A14 rfl (by first | omega | decide) (by first | omega | decide) eh15 rfl
  refine xi_iload_n (pc' := 6) (x := x1) kc_55_5 rfl rfl ?_
  refine xi_iconst (pc' := 7) (v := 0) kc_55_6 rfl rfl ?_
  refine xi_bipush (pc' := 9) (v := 63) kc_55_7 rfl rfl ?_
  refine xi_static (mj := 11) (as := [.int x1, .int 0, .int 63]) (st1 := []) (lv0 := [(0, .int x1), (1, .int 0), (2, .int 63)]) kc_55_9 rfl rfl (Nat.le_of_ble_eq_true rfl) rfl rfl (Nat.le_of_ble_eq_true rfl) (hJ _ _ _ _ (by decide)) (xm_le ml_11 rfl) rfl ?_
  refine xi_iload_n (pc' := 1) (x := x1) kc_11_0 rfl rfl ?_
  refine xi_iload_n (pc' := 2) (x := 0) kc_11_1 rfl rfl ?_
  by_cases c18 : x1.toInt < 0
  · refine xi_cmt (pc' := 14) kc_11_2 rfl (xc_lt_t (X := x1.toInt) (Y := 0) rfl (by decide) (by omega)) ?_
    refine xi_iconst (pc' := 15) (v := 0) kc_11_14 rfl rfl ?_
    refine xi_ireturn kc_11_15 mr_11 rfl ?_
    show xw J ov (d + 1) 55 (12, [(0, .ref 115), (1, .int x1), (2, .int x2)], [.int 0], hh16) _
    refine xi_iff (pc' := 15) kc_55_12 rfl rfl ?_
    refine xi_aload_n (pc' := 16) (x := 115) kc_55_15 rfl rfl ?_
    refine xi_bipush (pc' := 18) (v := (-2)) kc_55_16 rfl rfl ?_
    refine xi_virtual (mj := 12) (as := [.int (-2)]) (st1 := []) (lv0 := [(0, .ref 115), (1, .int (-2))]) kc_55_18 rfl rfl rfl rfl rfl eh15.1 (Nat.le_of_ble_eq_true rfl) (hJ _ _ _ _ (by decide)) (xm_le ml_12 rfl) rfl ?_
    refine xi_aload_n (pc' := 1) (x := 115) kc_12_0 rfl rfl ?_
    refine xi_getfield (pc' := 4) (v := .ref 140) kc_12_1 rfl rfl rfl eh15.1 rfl ?_
    refine xi_iload_n (pc' := 5) (x := (-2)) kc_12_4 rfl rfl ?_
    refine xi_ineg (pc' := 6) (v := 2) kc_12_5 rfl rfl ?_
    refine xi_dup2 (pc' := 7) kc_12_6 rfl ⟨rfl, rfl⟩ ?_
    refine xcps4 (xk_arr K17.1 xD_140) (fun y19 A19 hy19 ry19 => ?_)
    refine xcps4 (xj_get hy19 ry19 (i := 2) (by decide) (by decide)) (fun v20 ev20 bv20 dv20 => ?_)
    refine xi_iaload (pc' := 8) (v := v20) kc_12_7 rfl A19 (by decide) rfl (xi_in (by decide) (by rw [hy19]; decide)) ev20 ?_
    refine xi_iconst (pc' := 9) (v := 1) kc_12_8 rfl rfl ?_
    refine xcps2 (α := Int32) ((v20 : Int32) + 1) (fun v21 ev21 => ?_)
    have rv21 := xc_rng v21
    refine xi_iadd (pc' := 10) (v := v21) kc_12_9 rfl ev21 ?_
    refine xcps4 (xj_set (v := v21) hy19 ry19 2 (by first | omega | decide) (by first | omega | decide)) (fun y22 s22 hy22 ry22 => ?_)
    refine xi_iastore (pc' := 11) (x' := y22) kc_12_10 rfl A19 rfl (xi_in (by decide) (by rw [hy19]; decide)) s22 (fun hh22 eh22 => ?_)
    have K23 := xk_pa K17 (xk_wa rfl) xD_140 hy22 ry22 eh22
    refine xi_iload_n (pc' := 12) (x := (-2)) kc_12_11 rfl rfl ?_
    refine xi_ireturn kc_12_12 mr_12 rfl ?_
    show xw J ov (d + 1) 55 (21, [(0, .ref 115), (1, .int x1), (2, .int x2)], [.int (-2)], hh22) _
    refine xi_ireturn kc_55_21 mr_55 rfl ?_
    have zcm2 : ((-2) : Int32).toInt = (-2) := by decide
    exact kk (-2) hh22 (by omega) K23
  · refine xi_cmf (pc' := 5) kc_11_2 rfl (xc_lt_f (X := x1.toInt) (Y := 0) rfl (by decide) (by omega)) ?_
    refine xi_iload_n (pc' := 6) (x := x1) kc_11_5 rfl rfl ?_
    refine xi_iload_n (pc' := 7) (x := 63) kc_11_6 rfl rfl ?_
    by_cases c24 : 63 < x1.toInt
    · refine xi_cmt (pc' := 14) kc_11_7 rfl (xc_gt_t (X := x1.toInt) (Y := 63) rfl (by decide) (by omega)) ?_
      refine xi_iconst (pc' := 15) (v := 0) kc_11_14 rfl rfl ?_
      refine xi_ireturn kc_11_15 mr_11 rfl ?_
      show xw J ov (d + 1) 55 (12, [(0, .ref 115), (1, .int x1), (2, .int x2)], [.int 0], hh16) _
      refine xi_iff (pc' := 15) kc_55_12 rfl rfl ?_
      refine xi_aload_n (pc' := 16) (x := 115) kc_55_15 rfl rfl ?_
      refine xi_bipush (pc' := 18) (v := (-2)) kc_55_16 rfl rfl ?_
      refine xi_virtual (mj := 12) (as := [.int (-2)]) (st1 := []) (lv0 := [(0, .ref 115), (1, .int (-2))]) kc_55_18 rfl rfl rfl rfl rfl eh15.1 (Nat.le_of_ble_eq_true rfl) (hJ _ _ _ _ (by decide)) (xm_le ml_12 rfl) rfl ?_
      refine xi_aload_n (pc' := 1) (x := 115) kc_12_0 rfl rfl ?_
      refine xi_getfield (pc' := 4) (v := .ref 140) kc_12_1 rfl rfl rfl eh15.1 rfl ?_
      refine xi_iload_n (pc' := 5) (x := (-2)) kc_12_4 rfl rfl ?_
      refine xi_ineg (pc' := 6) (v := 2) kc_12_5 rfl rfl ?_
      refine xi_dup2 (pc' := 7) kc_12_6 rfl ⟨rfl, rfl⟩ ?_
      refine xcps4 (xk_arr K17.1 xD_140) (fun y25 A25 hy25 ry25 => ?_)
      refine xcps4 (xj_get hy25 ry25 (i := 2) (by decide) (by decide)) (fun v26 ev26 bv26 dv26 => ?_)
      refine xi_iaload (pc' := 8) (v := v26) kc_12_7 rfl A25 (by decide) rfl (xi_in (by decide) (by rw [hy25]; decide)) ev26 ?_
      refine xi_iconst (pc' := 9) (v := 1) kc_12_8 rfl rfl ?_
      refine xcps2 (α := Int32) ((v26 : Int32) + 1) (fun v27 ev27 => ?_)
      have rv27 := xc_rng v27
      refine xi_iadd (pc' := 10) (v := v27) kc_12_9 rfl ev27 ?_
      refine xcps4 (xj_set (v := v27) hy25 ry25 2 (by first | omega | decide) (by first | omega | decide)) (fun y28 s28 hy28 ry28 => ?_)
      refine xi_iastore (pc' := 11) (x' := y28) kc_12_10 rfl A25 rfl (xi_in (by decide) (by rw [hy25]; decide)) s28 (fun hh28 eh28 => ?_)
      have K29 := xk_pa K17 (xk_wa rfl) xD_140 hy28 ry28 eh28
      refine xi_iload_n (pc' := 12) (x := (-2)) kc_12_11 rfl rfl ?_
      refine xi_ireturn kc_12_12 mr_12 rfl ?_
      show xw J ov (d + 1) 55 (21, [(0, .ref 115), (1, .int x1), (2, .int x2)], [.int (-2)], hh28) _
      refine xi_ireturn kc_55_21 mr_55 rfl ?_
      have zcm2 : ((-2) : Int32).toInt = (-2) := by decide
      exact kk (-2) hh28 (by omega) K29
    · refine xi_cmf (pc' := 10) kc_11_7 rfl (xc_gt_f (X := x1.toInt) (Y := 63) rfl (by decide) (by omega)) ?_
      refine xi_iconst (pc' := 11) (v := 1) kc_11_10 rfl rfl ?_
      refine xi_goto (pc' := 15) kc_11_11 rfl ?_
      refine xi_ireturn kc_11_15 mr_11 rfl ?_
      show xw J ov (d + 1) 55 (12, [(0, .ref 115), (1, .int x1), (2, .int x2)], [.int 1], hh16) _
      refine xi_ift (pc' := 22) kc_55_12 rfl rfl ?_
      refine xi_iload_n (pc' := 23) (x := x2) kc_55_22 rfl rfl ?_
      refine xi_iconst (pc' := 24) (v := 1) kc_55_23 rfl rfl ?_
      by_cases c30 : 1 ≤ x2.toInt
      · refine xi_cmt (pc' := 34) kc_55_24 rfl (xc_ge_t (X := x2.toInt) (Y := 1) rfl (by decide) (by omega)) ?_
        refine xi_iload_n (pc' := 35) (x := x2) kc_55_34 rfl rfl ?_
        refine xi_sipush (pc' := 38) (v := 999) kc_55_35 rfl rfl ?_
        by_cases c31 : 999 < x2.toInt
        · refine xi_cmt (pc' := 50) kc_55_38 rfl (xc_gt_t (X := x2.toInt) (Y := 999) rfl (by decide) (by omega)) ?_
          refine xi_aload_n (pc' := 51) (x := 115) kc_55_50 rfl rfl ?_
          refine xi_bipush (pc' := 53) (v := (-6)) kc_55_51 rfl rfl ?_
          refine xi_virtual (mj := 12) (as := [.int (-6)]) (st1 := []) (lv0 := [(0, .ref 115), (1, .int (-6))]) kc_55_53 rfl rfl rfl rfl rfl eh15.1 (Nat.le_of_ble_eq_true rfl) (hJ _ _ _ _ (by decide)) (xm_le ml_12 rfl) rfl ?_
          refine xi_aload_n (pc' := 1) (x := 115) kc_12_0 rfl rfl ?_
          refine xi_getfield (pc' := 4) (v := .ref 140) kc_12_1 rfl rfl rfl eh15.1 rfl ?_
          refine xi_iload_n (pc' := 5) (x := (-6)) kc_12_4 rfl rfl ?_
          refine xi_ineg (pc' := 6) (v := 6) kc_12_5 rfl rfl ?_
          refine xi_dup2 (pc' := 7) kc_12_6 rfl ⟨rfl, rfl⟩ ?_
          refine xcps4 (xk_arr K17.1 xD_140) (fun y32 A32 hy32 ry32 => ?_)
          refine xcps4 (xj_get hy32 ry32 (i := 6) (by decide) (by decide)) (fun v33 ev33 bv33 dv33 => ?_)
          refine xi_iaload (pc' := 8) (v := v33) kc_12_7 rfl A32 (by decide) rfl (xi_in (by decide) (by rw [hy32]; decide)) ev33 ?_
          refine xi_iconst (pc' := 9) (v := 1) kc_12_8 rfl rfl ?_
          refine xcps2 (α := Int32) ((v33 : Int32) + 1) (fun v34 ev34 => ?_)
          have rv34 := xc_rng v34
          refine xi_iadd (pc' := 10) (v := v34) kc_12_9 rfl ev34 ?_
          refine xcps4 (xj_set (v := v34) hy32 ry32 6 (by first | omega | decide) (by first | omega | decide)) (fun y35 s35 hy35 ry35 => ?_)
          refine xi_iastore (pc' := 11) (x' := y35) kc_12_10 rfl A32 rfl (xi_in (by decide) (by rw [hy32]; decide)) s35 (fun hh35 eh35 => ?_)
          have K36 := xk_pa K17 (xk_wa rfl) xD_140 hy35 ry35 eh35
          refine xi_iload_n (pc' := 12) (x := (-6)) kc_12_11 rfl rfl ?_
          refine xi_ireturn kc_12_12 mr_12 rfl ?_
          show xw J ov (d + 1) 55 (56, [(0, .ref 115), (1, .int x1), (2, .int x2)], [.int (-6)], hh35) _
          refine xi_ireturn kc_55_56 mr_55 rfl ?_
          have zcm6 : ((-6) : Int32).toInt = (-6) := by decide
          exact kk (-6) hh35 (by omega) K36
        · refine xi_cmf (pc' := 41) kc_55_38 rfl (xc_gt_f (X := x2.toInt) (Y := 999) rfl (by decide) (by omega)) ?_
          refine xi_aload_n (pc' := 42) (x := 115) kc_55_41 rfl rfl ?_
          refine xi_getfield (pc' := 45) (v := .int u10) kc_55_42 rfl rfl rfl eh15.1 rfl ?_
          refine xi_bipush (pc' := 47) (v := 8) kc_55_45 rfl rfl ?_
          by_cases c37 : u10.toInt = 8
          · refine xi_cmf (pc' := 50) kc_55_47 rfl (xc_ne_f (X := u10.toInt) (Y := 8) rfl (by decide) (by omega)) ?_
            refine xi_aload_n (pc' := 51) (x := 115) kc_55_50 rfl rfl ?_
            refine xi_bipush (pc' := 53) (v := (-6)) kc_55_51 rfl rfl ?_
            refine xi_virtual (mj := 12) (as := [.int (-6)]) (st1 := []) (lv0 := [(0, .ref 115), (1, .int (-6))]) kc_55_53 rfl rfl rfl rfl rfl eh15.1 (Nat.le_of_ble_eq_true rfl) (hJ _ _ _ _ (by decide)) (xm_le ml_12 rfl) rfl ?_
            refine xi_aload_n (pc' := 1) (x := 115) kc_12_0 rfl rfl ?_
            refine xi_getfield (pc' := 4) (v := .ref 140) kc_12_1 rfl rfl rfl eh15.1 rfl ?_
            refine xi_iload_n (pc' := 5) (x := (-6)) kc_12_4 rfl rfl ?_
            refine xi_ineg (pc' := 6) (v := 6) kc_12_5 rfl rfl ?_
            refine xi_dup2 (pc' := 7) kc_12_6 rfl ⟨rfl, rfl⟩ ?_
            refine xcps4 (xk_arr K17.1 xD_140) (fun y38 A38 hy38 ry38 => ?_)
            refine xcps4 (xj_get hy38 ry38 (i := 6) (by decide) (by decide)) (fun v39 ev39 bv39 dv39 => ?_)
            refine xi_iaload (pc' := 8) (v := v39) kc_12_7 rfl A38 (by decide) rfl (xi_in (by decide) (by rw [hy38]; decide)) ev39 ?_
            refine xi_iconst (pc' := 9) (v := 1) kc_12_8 rfl rfl ?_
            refine xcps2 (α := Int32) ((v39 : Int32) + 1) (fun v40 ev40 => ?_)
            have rv40 := xc_rng v40
            refine xi_iadd (pc' := 10) (v := v40) kc_12_9 rfl ev40 ?_
            refine xcps4 (xj_set (v := v40) hy38 ry38 6 (by first | omega | decide) (by first | omega | decide)) (fun y41 s41 hy41 ry41 => ?_)
            refine xi_iastore (pc' := 11) (x' := y41) kc_12_10 rfl A38 rfl (xi_in (by decide) (by rw [hy38]; decide)) s41 (fun hh41 eh41 => ?_)
            have K42 := xk_pa K17 (xk_wa rfl) xD_140 hy41 ry41 eh41
            refine xi_iload_n (pc' := 12) (x := (-6)) kc_12_11 rfl rfl ?_
            refine xi_ireturn kc_12_12 mr_12 rfl ?_
            show xw J ov (d + 1) 55 (56, [(0, .ref 115), (1, .int x1), (2, .int x2)], [.int (-6)], hh41) _
            refine xi_ireturn kc_55_56 mr_55 rfl ?_
            have zcm6 : ((-6) : Int32).toInt = (-6) := by decide
            exact kk (-6) hh41 (by omega) K42
          · refine xi_cmt (pc' := 57) kc_55_47 rfl (xc_ne_t (X := u10.toInt) (Y := 8) rfl (by decide) (by omega)) ?_
            refine xi_aload_n (pc' := 58) (x := 115) kc_55_57 rfl rfl ?_
            refine xi_getfield (pc' := 61) (v := .ref 152) kc_55_58 rfl rfl rfl eh15.1 rfl ?_
            refine xi_aload_n (pc' := 62) (x := 115) kc_55_61 rfl rfl ?_
            refine xi_getfield (pc' := 65) (v := .int u10) kc_55_62 rfl rfl rfl eh15.1 rfl ?_
            refine xi_iload_n (pc' := 66) (x := x1) kc_55_65 rfl rfl ?_
            refine xcps4 (xk_arr K17.1 xD_152) (fun y43 A43 hy43 ry43 => ?_)
            refine xcps4 (xj_set (v := x1) hy43 ry43 u10 (by first | omega | decide) (by first | omega | decide)) (fun y44 s44 hy44 ry44 => ?_)
            refine xi_iastore (pc' := 67) (x' := y44) kc_55_66 rfl A43 rfl (xi_in (by omega) (by rw [hy43]; omega)) s44 (fun hh44 eh44 => ?_)
            have K45 := xk_pa K17 (xk_wa rfl) xD_152 hy44 ry44 eh44
            refine xi_aload_n (pc' := 68) (x := 115) kc_55_67 rfl rfl ?_
            have A46 := ((eh44.2.1 115 (by decide)).trans eh15.1)
            refine xi_getfield (pc' := 71) (v := .ref 153) kc_55_68 rfl rfl rfl A46 rfl ?_
            refine xi_aload_n (pc' := 72) (x := 115) kc_55_71 rfl rfl ?_
            refine xi_getfield (pc' := 75) (v := .int u10) kc_55_72 rfl rfl rfl A46 rfl ?_
            refine xi_iload_n (pc' := 76) (x := x2) kc_55_75 rfl rfl ?_
            refine xcps4 (xk_arr K45.1 xD_153) (fun y47 A47 hy47 ry47 => ?_)
            refine xcps4 (xj_set (v := x2) hy47 ry47 u10 (by first | omega | decide) (by first | omega | decide)) (fun y48 s48 hy48 ry48 => ?_)
            refine xi_iastore (pc' := 77) (x' := y48) kc_55_76 rfl A47 rfl (xi_in (by omega) (by rw [hy47]; omega)) s48 (fun hh48 eh48 => ?_)
            have K49 := xk_pa K45 (xk_wa rfl) xD_153 hy48 ry48 eh48
            refine xi_aload_n (pc' := 78) (x := 115) kc_55_77 rfl rfl ?_
            have A50 := ((eh48.2.1 115 (by decide)).trans A46)
            refine xi_getfield (pc' := 81) (v := .ref 154) kc_55_78 rfl rfl rfl A50 rfl ?_
            refine xi_aload_n (pc' := 82) (x := 115) kc_55_81 rfl rfl ?_
            refine xi_getfield (pc' := 85) (v := .int u10) kc_55_82 rfl rfl rfl A50 rfl ?_
            refine xi_iconst (pc' := 86) (v := 0) kc_55_85 rfl rfl ?_
            refine xcps4 (xk_arr K49.1 xD_154) (fun y51 A51 hy51 ry51 => ?_)
            refine xcps4 (xj_set (v := 0) hy51 ry51 u10 (by first | omega | decide) (by first | omega | decide)) (fun y52 s52 hy52 ry52 => ?_)
            refine xi_iastore (pc' := 87) (x' := y52) kc_55_86 rfl A51 rfl (xi_in (by omega) (by rw [hy51]; omega)) s52 (fun hh52 eh52 => ?_)
            have K53 := xk_pa K49 (xk_wa rfl) xD_154 hy52 ry52 eh52
            refine xi_aload_n (pc' := 88) (x := 115) kc_55_87 rfl rfl ?_
            refine xi_dup (pc' := 89) kc_55_88 rfl rfl ?_
            have A54 := ((eh52.2.1 115 (by decide)).trans A50)
            refine xi_getfield (pc' := 92) (v := .int u10) kc_55_89 rfl rfl rfl A54 rfl ?_
            refine xi_iconst (pc' := 93) (v := 1) kc_55_92 rfl rfl ?_
            refine xcps2 (α := Int32) (u10 + 1) (fun v55 ev55 => ?_)
            have zv55 : v55.toInt = (u10.toInt + 1) := by rw [← ev55]; exact (xz_add (X := u10.toInt) (Y := 1) rfl (by decide) (by omega) (by omega)).trans (by omega)
            refine xi_iadd (pc' := 94) (v := v55) kc_55_93 rfl ev55 ?_
            refine xi_putfield (pc' := 97) (fs' := [.int 0, .int u2, .ref 116, .ref 117, .ref 118, .ref 119, .ref 120, .ref 121, .ref 122, .ref 123, .ref 124, .ref 125, .ref 126, .ref 127, .ref 128, .ref 129, .int u3, .ref 130, .int u4, .ref 131, .ref 132, .ref 133, .ref 134, .int u5, .ref 135, .ref 136, .ref 137, .ref 138, .ref 139, .ref 140, .ref 141, .ref 142, .int u6, .int u7, .int u8, .ref 143, .ref 144, .ref 145, .ref 146, .ref 147, .ref 148, .int u9, .ref 149, .ref 150, .ref 151, .int v55, .ref 152, .ref 153, .ref 154, .ref 155, .ref 156, .ref 157, .ref 158, .ref 159, .int u11, .ref 160, .int u12, .ref 161, .ref 162, .ref 163, .ref 164, .int u13, .ref 165, .ref 166]) kc_55_94 rfl rfl rfl A54 rfl rfl rfl (Nat.le_of_ble_eq_true rfl) rfl (fun hh57 eh56 => ?_)
            have K58 := xk_pf (k := 45) (v := v55) K53 (xk_wf rfl) xD_115 A54 rfl (by first | omega | decide) (by first | omega | decide) eh56 rfl
            refine xi_aload_n (pc' := 98) (x := 115) kc_55_97 rfl rfl ?_
            refine xi_getfield (pc' := 101) (v := .int v55) kc_55_98 rfl rfl rfl eh56.1 rfl ?_
            refine xi_iconst (pc' := 102) (v := 1) kc_55_101 rfl rfl ?_
            refine xcps2 (α := Int32) (v55 - 1) (fun v59 ev59 => ?_)
            have zv59 : v59.toInt = u10.toInt := by rw [← ev59]; exact (xz_sub (X := (u10.toInt + 1)) (Y := 1) zv55 (by decide) (by omega) (by omega)).trans (by omega)
            refine xi_isub (pc' := 103) (v := v59) kc_55_102 rfl ev59 ?_
            refine xi_ireturn kc_55_103 mr_55 rfl ?_
            exact kk v59 hh57 (by omega) K58
      · refine xi_cmf (pc' := 27) kc_55_24 rfl (xc_ge_f (X := x2.toInt) (Y := 1) rfl (by decide) (by omega)) ?_
        refine xi_aload_n (pc' := 28) (x := 115) kc_55_27 rfl rfl ?_
        refine xi_bipush (pc' := 30) (v := (-4)) kc_55_28 rfl rfl ?_
        refine xi_virtual (mj := 12) (as := [.int (-4)]) (st1 := []) (lv0 := [(0, .ref 115), (1, .int (-4))]) kc_55_30 rfl rfl rfl rfl rfl eh15.1 (Nat.le_of_ble_eq_true rfl) (hJ _ _ _ _ (by decide)) (xm_le ml_12 rfl) rfl ?_
        refine xi_aload_n (pc' := 1) (x := 115) kc_12_0 rfl rfl ?_
        refine xi_getfield (pc' := 4) (v := .ref 140) kc_12_1 rfl rfl rfl eh15.1 rfl ?_
        refine xi_iload_n (pc' := 5) (x := (-4)) kc_12_4 rfl rfl ?_
        refine xi_ineg (pc' := 6) (v := 4) kc_12_5 rfl rfl ?_
        refine xi_dup2 (pc' := 7) kc_12_6 rfl ⟨rfl, rfl⟩ ?_
        refine xcps4 (xk_arr K17.1 xD_140) (fun y60 A60 hy60 ry60 => ?_)
        refine xcps4 (xj_get hy60 ry60 (i := 4) (by decide) (by decide)) (fun v61 ev61 bv61 dv61 => ?_)
        refine xi_iaload (pc' := 8) (v := v61) kc_12_7 rfl A60 (by decide) rfl (xi_in (by decide) (by rw [hy60]; decide)) ev61 ?_
        refine xi_iconst (pc' := 9) (v := 1) kc_12_8 rfl rfl ?_
        refine xcps2 (α := Int32) ((v61 : Int32) + 1) (fun v62 ev62 => ?_)
        have rv62 := xc_rng v62
        refine xi_iadd (pc' := 10) (v := v62) kc_12_9 rfl ev62 ?_
        refine xcps4 (xj_set (v := v62) hy60 ry60 4 (by first | omega | decide) (by first | omega | decide)) (fun y63 s63 hy63 ry63 => ?_)
        refine xi_iastore (pc' := 11) (x' := y63) kc_12_10 rfl A60 rfl (xi_in (by decide) (by rw [hy60]; decide)) s63 (fun hh63 eh63 => ?_)
        have K64 := xk_pa K17 (xk_wa rfl) xD_140 hy63 ry63 eh63
        refine xi_iload_n (pc' := 12) (x := (-4)) kc_12_11 rfl rfl ?_
        refine xi_ireturn kc_12_12 mr_12 rfl ?_
        show xw J ov (d + 1) 55 (33, [(0, .ref 115), (1, .int x1), (2, .int x2)], [.int (-4)], hh63) _
        refine xi_ireturn kc_55_33 mr_55 rfl ?_
        have zcm4 : ((-4) : Int32).toInt = (-4) := by decide
        exact kk (-4) hh63 (by omega) K64
set_option maxHeartbeats 4000000 in
theorem mt_56_0 {J : xe_J} {ov : List (List Int32)} (hJ : ∀ d mj as h, mj ≠ xe_loff → J d mj as h = none) (hov1 : ov[1]? = some [10, 0, 0, 0, 0, 0]) (hov2 : ov[2]? = some [99, 30, 50, 50, 1, 99999]) {d : Nat} {Q : Option Value → xe_H → Prop} {h : xe_H} {x1 : Int32} {x2 : Int32} (T : xt h) (b2 : (0 ≤ x2.toInt ∧ x2.toInt ≤ 1)) (kk : (∀ (r : Int32) (h' : xe_H), xk [(0, 9), (115, 1), (83, 0), (29, 0), (31, 0), (33, 0), (35, 0), (37, 0), (39, 0), (41, 0), (43, 0), (45, 0), (47, 0), (49, 0), (51, 0), (125, 0), (66, 8), (115, 18), (71, 0), (132, 0)] h h' → Q (some (.int r)) h')) : xw J ov (d + 8) 56 (0, [(0, .ref 115), (1, .int x1), (2, .int x2)], [], h) Q := by
  have K : xk [(0, 9), (115, 1), (83, 0), (29, 0), (31, 0), (33, 0), (35, 0), (37, 0), (39, 0), (41, 0), (43, 0), (45, 0), (47, 0), (49, 0), (51, 0), (125, 0), (66, 8), (115, 18), (71, 0), (132, 0)] h h := xk_re T
  have rx1 := xc_rng x1
  refine xi_aload_n (pc' := 1) (x := 115) kc_56_0 rfl rfl ?_
  refine xi_iconst (pc' := 2) (v := 0) kc_56_1 rfl rfl ?_
  refine xp_115 K.1 (fun u1 u2 u3 u4 u5 u6 u7 u8 u9 u10 u11 u12 u13 bu1 bu2 bu3 bu4 bu5 bu6 bu7 bu8 bu9 bu10 bu11 bu12 bu13 A14 => ?_)
  refine xi_putfield (pc' := 5) (fs' := [.int 0, .int u2, .ref 116, .ref 117, .ref 118, .ref 119, .ref 120, .ref 121, .ref 122, .ref 123, .ref 124, .ref 125, .ref 126, .ref 127, .ref 128, .ref 129, .int u3, .ref 130, .int u4, .ref 131, .ref 132, .ref 133, .ref 134, .int u5, .ref 135, .ref 136, .ref 137, .ref 138, .ref 139, .ref 140, .ref 141, .ref 142, .int u6, .int u7, .int u8, .ref 143, .ref 144, .ref 145, .ref 146, .ref 147, .ref 148, .int u9, .ref 149, .ref 150, .ref 151, .int u10, .ref 152, .ref 153, .ref 154, .ref 155, .ref 156, .ref 157, .ref 158, .ref 159, .int u11, .ref 160, .int u12, .ref 161, .ref 162, .ref 163, .ref 164, .int u13, .ref 165, .ref 166]) kc_56_2 rfl rfl rfl A14 rfl rfl rfl (Nat.le_of_ble_eq_true rfl) rfl (fun hh16 eh15 => ?_)
  have K17 := xk_pf (k := 0) (v := 0) K (xk_wf rfl) xD_115 A14 rfl (by first | omega | decide) (by first | omega | decide) eh15 rfl
  refine xi_iload_n (pc' := 6) (x := x1) kc_56_5 rfl rfl ?_
  refine xi_iconst (pc' := 7) (v := 0) kc_56_6 rfl rfl ?_
  refine xi_aload_n (pc' := 8) (x := 115) kc_56_7 rfl rfl ?_
  refine xi_getfield (pc' := 11) (v := .int u10) kc_56_8 rfl rfl rfl eh15.1 rfl ?_
  refine xi_iconst (pc' := 12) (v := 1) kc_56_11 rfl rfl ?_
  refine xcps2 (α := Int32) (u10 - 1) (fun v18 ev18 => ?_)
  have zv18 : v18.toInt = (u10.toInt + (-1)) := by rw [← ev18]; exact (xz_sub (X := u10.toInt) (Y := 1) rfl (by decide) (by omega) (by omega)).trans (by omega)
  refine xi_isub (pc' := 13) (v := v18) kc_56_12 rfl ev18 ?_
  refine xi_static (mj := 11) (as := [.int x1, .int 0, .int v18]) (st1 := []) (lv0 := [(0, .int x1), (1, .int 0), (2, .int v18)]) kc_56_13 rfl rfl (Nat.le_of_ble_eq_true rfl) rfl rfl (Nat.le_of_ble_eq_true rfl) (hJ _ _ _ _ (by decide)) (xm_le ml_11 rfl) rfl ?_
  refine xi_iload_n (pc' := 1) (x := x1) kc_11_0 rfl rfl ?_
  refine xi_iload_n (pc' := 2) (x := 0) kc_11_1 rfl rfl ?_
  by_cases c19 : x1.toInt < 0
  · refine xi_cmt (pc' := 14) kc_11_2 rfl (xc_lt_t (X := x1.toInt) (Y := 0) rfl (by decide) (by omega)) ?_
    refine xi_iconst (pc' := 15) (v := 0) kc_11_14 rfl rfl ?_
    refine xi_ireturn kc_11_15 mr_11 rfl ?_
    show xw J ov (d + 8) 56 (16, [(0, .ref 115), (1, .int x1), (2, .int x2)], [.int 0], hh16) _
    refine xi_iff (pc' := 19) kc_56_16 rfl rfl ?_
    refine xi_aload_n (pc' := 20) (x := 115) kc_56_19 rfl rfl ?_
    refine xi_iconst (pc' := 21) (v := (-1)) kc_56_20 rfl rfl ?_
    refine xi_virtual (mj := 12) (as := [.int (-1)]) (st1 := []) (lv0 := [(0, .ref 115), (1, .int (-1))]) kc_56_21 rfl rfl rfl rfl rfl eh15.1 (Nat.le_of_ble_eq_true rfl) (hJ _ _ _ _ (by decide)) (xm_le ml_12 rfl) rfl ?_
    refine xi_aload_n (pc' := 1) (x := 115) kc_12_0 rfl rfl ?_
    refine xi_getfield (pc' := 4) (v := .ref 140) kc_12_1 rfl rfl rfl eh15.1 rfl ?_
    refine xi_iload_n (pc' := 5) (x := (-1)) kc_12_4 rfl rfl ?_
    refine xi_ineg (pc' := 6) (v := 1) kc_12_5 rfl rfl ?_
    refine xi_dup2 (pc' := 7) kc_12_6 rfl ⟨rfl, rfl⟩ ?_
    refine xcps4 (xk_arr K17.1 xD_140) (fun y20 A20 hy20 ry20 => ?_)
    refine xcps4 (xj_get hy20 ry20 (i := 1) (by decide) (by decide)) (fun v21 ev21 bv21 dv21 => ?_)
    refine xi_iaload (pc' := 8) (v := v21) kc_12_7 rfl A20 (by decide) rfl (xi_in (by decide) (by rw [hy20]; decide)) ev21 ?_
    refine xi_iconst (pc' := 9) (v := 1) kc_12_8 rfl rfl ?_
    refine xcps2 (α := Int32) ((v21 : Int32) + 1) (fun v22 ev22 => ?_)
    have rv22 := xc_rng v22
    refine xi_iadd (pc' := 10) (v := v22) kc_12_9 rfl ev22 ?_
    refine xcps4 (xj_set (v := v22) hy20 ry20 1 (by first | omega | decide) (by first | omega | decide)) (fun y23 s23 hy23 ry23 => ?_)
    refine xi_iastore (pc' := 11) (x' := y23) kc_12_10 rfl A20 rfl (xi_in (by decide) (by rw [hy20]; decide)) s23 (fun hh23 eh23 => ?_)
    have K24 := xk_pa K17 (xk_wa rfl) xD_140 hy23 ry23 eh23
    refine xi_iload_n (pc' := 12) (x := (-1)) kc_12_11 rfl rfl ?_
    refine xi_ireturn kc_12_12 mr_12 rfl ?_
    show xw J ov (d + 8) 56 (24, [(0, .ref 115), (1, .int x1), (2, .int x2)], [.int (-1)], hh23) _
    refine xi_ireturn kc_56_24 mr_56 rfl ?_
    have zcm1 : ((-1) : Int32).toInt = (-1) := by decide
    exact kk (-1) hh23 K24
  · refine xi_cmf (pc' := 5) kc_11_2 rfl (xc_lt_f (X := x1.toInt) (Y := 0) rfl (by decide) (by omega)) ?_
    refine xi_iload_n (pc' := 6) (x := x1) kc_11_5 rfl rfl ?_
    refine xi_iload_n (pc' := 7) (x := v18) kc_11_6 rfl rfl ?_
    by_cases c25 : (u10.toInt + (-1)) < x1.toInt
    · refine xi_cmt (pc' := 14) kc_11_7 rfl (xc_gt_t (X := x1.toInt) (Y := (u10.toInt + (-1))) rfl zv18 (by omega)) ?_
      refine xi_iconst (pc' := 15) (v := 0) kc_11_14 rfl rfl ?_
      refine xi_ireturn kc_11_15 mr_11 rfl ?_
      show xw J ov (d + 8) 56 (16, [(0, .ref 115), (1, .int x1), (2, .int x2)], [.int 0], hh16) _
      refine xi_iff (pc' := 19) kc_56_16 rfl rfl ?_
      refine xi_aload_n (pc' := 20) (x := 115) kc_56_19 rfl rfl ?_
      refine xi_iconst (pc' := 21) (v := (-1)) kc_56_20 rfl rfl ?_
      refine xi_virtual (mj := 12) (as := [.int (-1)]) (st1 := []) (lv0 := [(0, .ref 115), (1, .int (-1))]) kc_56_21 rfl rfl rfl rfl rfl eh15.1 (Nat.le_of_ble_eq_true rfl) (hJ _ _ _ _ (by decide)) (xm_le ml_12 rfl) rfl ?_
      refine xi_aload_n (pc' := 1) (x := 115) kc_12_0 rfl rfl ?_
      refine xi_getfield (pc' := 4) (v := .ref 140) kc_12_1 rfl rfl rfl eh15.1 rfl ?_
      refine xi_iload_n (pc' := 5) (x := (-1)) kc_12_4 rfl rfl ?_
      refine xi_ineg (pc' := 6) (v := 1) kc_12_5 rfl rfl ?_
      refine xi_dup2 (pc' := 7) kc_12_6 rfl ⟨rfl, rfl⟩ ?_
      refine xcps4 (xk_arr K17.1 xD_140) (fun y26 A26 hy26 ry26 => ?_)
      refine xcps4 (xj_get hy26 ry26 (i := 1) (by decide) (by decide)) (fun v27 ev27 bv27 dv27 => ?_)
      refine xi_iaload (pc' := 8) (v := v27) kc_12_7 rfl A26 (by decide) rfl (xi_in (by decide) (by rw [hy26]; decide)) ev27 ?_
      refine xi_iconst (pc' := 9) (v := 1) kc_12_8 rfl rfl ?_
      refine xcps2 (α := Int32) ((v27 : Int32) + 1) (fun v28 ev28 => ?_)
      have rv28 := xc_rng v28
      refine xi_iadd (pc' := 10) (v := v28) kc_12_9 rfl ev28 ?_
      refine xcps4 (xj_set (v := v28) hy26 ry26 1 (by first | omega | decide) (by first | omega | decide)) (fun y29 s29 hy29 ry29 => ?_)
      refine xi_iastore (pc' := 11) (x' := y29) kc_12_10 rfl A26 rfl (xi_in (by decide) (by rw [hy26]; decide)) s29 (fun hh29 eh29 => ?_)
      have K30 := xk_pa K17 (xk_wa rfl) xD_140 hy29 ry29 eh29
      refine xi_iload_n (pc' := 12) (x := (-1)) kc_12_11 rfl rfl ?_
      refine xi_ireturn kc_12_12 mr_12 rfl ?_
      show xw J ov (d + 8) 56 (24, [(0, .ref 115), (1, .int x1), (2, .int x2)], [.int (-1)], hh29) _
      refine xi_ireturn kc_56_24 mr_56 rfl ?_
      have zcm1 : ((-1) : Int32).toInt = (-1) := by decide
      exact kk (-1) hh29 K30
    · refine xi_cmf (pc' := 10) kc_11_7 rfl (xc_gt_f (X := x1.toInt) (Y := (u10.toInt + (-1))) rfl zv18 (by omega)) ?_
      refine xi_iconst (pc' := 11) (v := 1) kc_11_10 rfl rfl ?_
      refine xi_goto (pc' := 15) kc_11_11 rfl ?_
      refine xi_ireturn kc_11_15 mr_11 rfl ?_
      show xw J ov (d + 8) 56 (16, [(0, .ref 115), (1, .int x1), (2, .int x2)], [.int 1], hh16) _
      refine xi_ift (pc' := 25) kc_56_16 rfl rfl ?_
      refine xi_aload_n (pc' := 26) (x := 115) kc_56_25 rfl rfl ?_
      refine xi_getfield (pc' := 29) (v := .ref 154) kc_56_26 rfl rfl rfl eh15.1 rfl ?_
      refine xi_iload_n (pc' := 30) (x := x1) kc_56_29 rfl rfl ?_
      refine xcps4 (xk_arr K17.1 xD_154) (fun y31 A31 hy31 ry31 => ?_)
      refine xcps4 (xj_get hy31 ry31 (i := x1) (by omega) (by omega)) (fun v32 ev32 bv32 dv32 => ?_)
      refine xi_iaload (pc' := 31) (v := v32) kc_56_30 rfl A31 (by decide) rfl (xi_in (by omega) (by rw [hy31]; omega)) ev32 ?_
      by_cases c33 : v32.toInt = 0
      · refine xi_ift (pc' := 41) kc_56_31 rfl (xc_eq_t (X := v32.toInt) (Y := 0) rfl (by decide) (by omega)) ?_
        refine xi_aload_n (pc' := 42) (x := 115) kc_56_41 rfl rfl ?_
        refine xi_getfield (pc' := 45) (v := .ref 154) kc_56_42 rfl rfl rfl eh15.1 rfl ?_
        refine xi_iload_n (pc' := 46) (x := x1) kc_56_45 rfl rfl ?_
        refine xi_iload_n (pc' := 47) (x := x2) kc_56_46 rfl rfl ?_
        by_cases c34 : x2.toInt = 0
        · refine xi_ift (pc' := 54) kc_56_47 rfl (xc_eq_t (X := x2.toInt) (Y := 0) rfl (by decide) (by omega)) ?_
          refine xi_iconst (pc' := 55) (v := 2) kc_56_54 rfl rfl ?_
          refine xcps4 (xj_set (v := 2) hy31 ry31 x1 (by first | omega | decide) (by first | omega | decide)) (fun y35 s35 hy35 ry35 => ?_)
          refine xi_iastore (pc' := 56) (x' := y35) kc_56_55 rfl A31 rfl (xi_in (by omega) (by rw [hy31]; omega)) s35 (fun hh35 eh35 => ?_)
          have K36 := xk_pa K17 (xk_wa rfl) xD_154 hy35 ry35 eh35
          refine xi_aload_n (pc' := 57) (x := 115) kc_56_56 rfl rfl ?_
          have A37 := ((eh35.2.1 115 (by decide)).trans eh15.1)
          refine xi_virtual (mj := 52) (as := []) (st1 := []) (lv0 := [(0, .ref 115)]) kc_56_57 rfl rfl rfl rfl rfl A37 (Nat.le_of_ble_eq_true rfl) (hJ _ _ _ _ (by decide)) (xm_le ml_52 rfl) rfl ?_
          refine mt_52_0 hJ hov1 hov2 (d := d)  K36.1 (fun r38 hh39 K40 => ?_)
          have br38 := xc_rng r38
          have K41 := xk_tr K36 K40 rfl
          refine xp_115 K41.1 (fun u42 u43 u44 u45 u46 u47 u48 u49 u50 u51 u52 u53 u54 bu42 bu43 bu44 bu45 bu46 bu47 bu48 bu49 bu50 bu51 bu52 bu53 bu54 A55 => ?_)
          have e56 : u2 = u43 := xk_eqi (q := 1) K40 rfl A37 A55 rfl rfl
          subst e56
          have e57 : u4 = u45 := xk_eqi (q := 18) K40 rfl A37 A55 rfl rfl
          subst e57
          show xw J ov (d + 8) 56 (60, [(0, .ref 115), (1, .int x1), (2, .int x2)], [.int r38], hh39) _
          refine xi_ireturn kc_56_60 mr_56 rfl ?_
          exact kk r38 hh39 K41
        · refine xi_iff (pc' := 50) kc_56_47 rfl (xc_eq_f (X := x2.toInt) (Y := 0) rfl (by decide) (by omega)) ?_
          refine xi_iconst (pc' := 51) (v := 1) kc_56_50 rfl rfl ?_
          refine xi_goto (pc' := 55) kc_56_51 rfl ?_
          refine xcps4 (xj_set (v := 1) hy31 ry31 x1 (by first | omega | decide) (by first | omega | decide)) (fun y58 s58 hy58 ry58 => ?_)
          refine xi_iastore (pc' := 56) (x' := y58) kc_56_55 rfl A31 rfl (xi_in (by omega) (by rw [hy31]; omega)) s58 (fun hh58 eh58 => ?_)
          have K59 := xk_pa K17 (xk_wa rfl) xD_154 hy58 ry58 eh58
          refine xi_aload_n (pc' := 57) (x := 115) kc_56_56 rfl rfl ?_
          have A60 := ((eh58.2.1 115 (by decide)).trans eh15.1)
          refine xi_virtual (mj := 52) (as := []) (st1 := []) (lv0 := [(0, .ref 115)]) kc_56_57 rfl rfl rfl rfl rfl A60 (Nat.le_of_ble_eq_true rfl) (hJ _ _ _ _ (by decide)) (xm_le ml_52 rfl) rfl ?_
          refine mt_52_0 hJ hov1 hov2 (d := d)  K59.1 (fun r61 hh62 K63 => ?_)
          have br61 := xc_rng r61
          have K64 := xk_tr K59 K63 rfl
          refine xp_115 K64.1 (fun u65 u66 u67 u68 u69 u70 u71 u72 u73 u74 u75 u76 u77 bu65 bu66 bu67 bu68 bu69 bu70 bu71 bu72 bu73 bu74 bu75 bu76 bu77 A78 => ?_)
          have e79 : u2 = u66 := xk_eqi (q := 1) K63 rfl A60 A78 rfl rfl
          subst e79
          have e80 : u4 = u68 := xk_eqi (q := 18) K63 rfl A60 A78 rfl rfl
          subst e80
          show xw J ov (d + 8) 56 (60, [(0, .ref 115), (1, .int x1), (2, .int x2)], [.int r61], hh62) _
          refine xi_ireturn kc_56_60 mr_56 rfl ?_
          exact kk r61 hh62 K64
      · refine xi_iff (pc' := 34) kc_56_31 rfl (xc_eq_f (X := v32.toInt) (Y := 0) rfl (by decide) (by omega)) ?_
        refine xi_aload_n (pc' := 35) (x := 115) kc_56_34 rfl rfl ?_
        refine xi_bipush (pc' := 37) (v := (-3)) kc_56_35 rfl rfl ?_
        refine xi_virtual (mj := 12) (as := [.int (-3)]) (st1 := []) (lv0 := [(0, .ref 115), (1, .int (-3))]) kc_56_37 rfl rfl rfl rfl rfl eh15.1 (Nat.le_of_ble_eq_true rfl) (hJ _ _ _ _ (by decide)) (xm_le ml_12 rfl) rfl ?_
        refine xi_aload_n (pc' := 1) (x := 115) kc_12_0 rfl rfl ?_
        refine xi_getfield (pc' := 4) (v := .ref 140) kc_12_1 rfl rfl rfl eh15.1 rfl ?_
        refine xi_iload_n (pc' := 5) (x := (-3)) kc_12_4 rfl rfl ?_
        refine xi_ineg (pc' := 6) (v := 3) kc_12_5 rfl rfl ?_
        refine xi_dup2 (pc' := 7) kc_12_6 rfl ⟨rfl, rfl⟩ ?_
        refine xcps4 (xk_arr K17.1 xD_140) (fun y81 A81 hy81 ry81 => ?_)
        refine xcps4 (xj_get hy81 ry81 (i := 3) (by decide) (by decide)) (fun v82 ev82 bv82 dv82 => ?_)
        refine xi_iaload (pc' := 8) (v := v82) kc_12_7 rfl A81 (by decide) rfl (xi_in (by decide) (by rw [hy81]; decide)) ev82 ?_
        refine xi_iconst (pc' := 9) (v := 1) kc_12_8 rfl rfl ?_
        refine xcps2 (α := Int32) ((v82 : Int32) + 1) (fun v83 ev83 => ?_)
        have rv83 := xc_rng v83
        refine xi_iadd (pc' := 10) (v := v83) kc_12_9 rfl ev83 ?_
        refine xcps4 (xj_set (v := v83) hy81 ry81 3 (by first | omega | decide) (by first | omega | decide)) (fun y84 s84 hy84 ry84 => ?_)
        refine xi_iastore (pc' := 11) (x' := y84) kc_12_10 rfl A81 rfl (xi_in (by decide) (by rw [hy81]; decide)) s84 (fun hh84 eh84 => ?_)
        have K85 := xk_pa K17 (xk_wa rfl) xD_140 hy84 ry84 eh84
        refine xi_iload_n (pc' := 12) (x := (-3)) kc_12_11 rfl rfl ?_
        refine xi_ireturn kc_12_12 mr_12 rfl ?_
        show xw J ov (d + 8) 56 (40, [(0, .ref 115), (1, .int x1), (2, .int x2)], [.int (-3)], hh84) _
        refine xi_ireturn kc_56_40 mr_56 rfl ?_
        have zcm3 : ((-3) : Int32).toInt = (-3) := by decide
        exact kk (-3) hh84 K85
set_option maxHeartbeats 4000000 in
theorem lp_57_0 {J : xe_J} {ov : List (List Int32)} (hJ : ∀ d mj as h, mj ≠ xe_loff → J d mj as h = none) (hov1 : ov[1]? = some [10, 0, 0, 0, 0, 0]) (hov2 : ov[2]? = some [99, 30, 50, 50, 1, 99999]) {d : Nat} {Q : Option Value → xe_H → Prop} {hb : xe_H} (kk : (∀ (r : Int32) (h' : xe_H), ((-9) ≤ r.toInt ∧ r.toInt ≤ 7) → xk [(0, 9), (115, 1), (83, 0), (29, 0), (31, 0), (33, 0), (35, 0), (37, 0), (39, 0), (41, 0), (43, 0), (45, 0), (47, 0), (49, 0), (51, 0), (125, 0), (66, 8), (115, 18), (71, 0), (132, 0)] hb h' → Q (some (.int r)) h')) : ∀ m : Nat, (∀ (x1 : Int32) (x2 : Int32) (x3 : Int32) (x4 : Int32) (h : xe_H), ((-9) ≤ x2.toInt ∧ x2.toInt ≤ 7) → (0 ≤ x4.toInt ∧ x4.toInt ≤ 8) → xk [(0, 9), (115, 1), (83, 0), (29, 0), (31, 0), (33, 0), (35, 0), (37, 0), (39, 0), (41, 0), (43, 0), (45, 0), (47, 0), (49, 0), (51, 0), (125, 0), (66, 8), (115, 18), (71, 0), (132, 0)] hb h → (-66) * x4.toInt + 593 < (m : Int) → xw J ov (d + 8) 57 (18, [(0, .ref 115), (1, .int x1), (2, .int x2), (3, .int x3), (4, .int x4)], [], h) Q) ∧ (∀ (x1 : Int32) (x2 : Int32) (x3 : Int32) (x4 : Int32) (x5 : Int32) (x6 : Int32) (h : xe_H), (1 ≤ x1.toInt ∧ x1.toInt ≤ 2147483647) → ((-9) ≤ x2.toInt ∧ x2.toInt ≤ 7) → (0 ≤ x4.toInt ∧ x4.toInt ≤ 7) → (0 ≤ x6.toInt ∧ x6.toInt ≤ 64) → xk [(0, 9), (115, 1), (83, 0), (29, 0), (31, 0), (33, 0), (35, 0), (37, 0), (39, 0), (41, 0), (43, 0), (45, 0), (47, 0), (49, 0), (51, 0), (125, 0), (66, 8), (115, 18), (71, 0), (132, 0)] hb h → (-66) * x4.toInt + (-1) * x6.toInt + 592 < (m : Int) → xw J ov (d + 8) 57 (37, [(0, .ref 115), (1, .int x1), (2, .int x2), (3, .int x3), (4, .int x4), (5, .int x5), (6, .int x6)], [], h) Q) := by
  intro m
  induction m with
  | zero =>
    refine ⟨?_, ?_⟩
    · intro x1 x2 x3 x4 h b2 b4 K hm; have rx1 := xc_rng x1; have rx3 := xc_rng x3; exfalso; omega
    · intro x1 x2 x3 x4 x5 x6 h b1 b2 b4 b6 K hm; have rx3 := xc_rng x3; have rx5 := xc_rng x5; exfalso; omega
  | succ m ih =>
    obtain ⟨i0, i1⟩ := ih
    refine ⟨?_, ?_⟩
    · intro x1 x2 x3 x4 h b2 b4 K hm
      have rx1 := xc_rng x1
      have rx3 := xc_rng x3
      refine xi_iload (pc' := 20) (x := x4) kc_57_18 rfl rfl ?_
      refine xi_aload_n (pc' := 21) (x := 115) kc_57_20 rfl rfl ?_
      refine xp_115 K.1 (fun u1 u2 u3 u4 u5 u6 u7 u8 u9 u10 u11 u12 u13 bu1 bu2 bu3 bu4 bu5 bu6 bu7 bu8 bu9 bu10 bu11 bu12 bu13 A14 => ?_)
      refine xi_getfield (pc' := 24) (v := .int u10) kc_57_21 rfl rfl rfl A14 rfl ?_
      by_cases c15 : u10.toInt ≤ x4.toInt
      · refine xi_cmt (pc' := 143) kc_57_24 rfl (xc_ge_t (X := x4.toInt) (Y := u10.toInt) rfl rfl (by omega)) ?_
        refine xi_iload_n (pc' := 144) (x := x2) kc_57_143 rfl rfl ?_
        refine xi_ireturn kc_57_144 mr_57 rfl ?_
        exact kk x2 h (by omega) K
      · refine xi_cmf (pc' := 27) kc_57_24 rfl (xc_ge_f (X := x4.toInt) (Y := u10.toInt) rfl rfl (by omega)) ?_
        refine xi_iload_n (pc' := 28) (x := x1) kc_57_27 rfl rfl ?_
        by_cases c16 : x1.toInt ≤ 0
        · refine xi_ift (pc' := 143) kc_57_28 rfl (xc_le_t (X := x1.toInt) (Y := 0) rfl (by decide) (by omega)) ?_
          refine xi_iload_n (pc' := 144) (x := x2) kc_57_143 rfl rfl ?_
          refine xi_ireturn kc_57_144 mr_57 rfl ?_
          exact kk x2 h (by omega) K
        · refine xi_iff (pc' := 31) kc_57_28 rfl (xc_le_f (X := x1.toInt) (Y := 0) rfl (by decide) (by omega)) ?_
          refine xi_iconst (pc' := 32) (v := 0) kc_57_31 rfl rfl ?_
          refine xi_istore (pc' := 34) (lv' := [(5, .int 0), (0, .ref 115), (1, .int x1), (2, .int x2), (3, .int x3), (4, .int x4)]) kc_57_32 rfl rfl (xm_lt ml_57 rfl) ?_
          refine xi_iconst (pc' := 35) (v := 0) kc_57_34 rfl rfl ?_
          refine xi_istore (pc' := 37) (lv' := [(6, .int 0), (5, .int 0), (0, .ref 115), (1, .int x1), (2, .int x2), (3, .int x3), (4, .int x4)]) kc_57_35 rfl rfl (xm_lt ml_57 rfl) ?_
          have zc0 : (0 : Int32).toInt = 0 := by decide
          refine xw_lv (b := [(0, .ref 115), (1, .int x1), (2, .int x2), (3, .int x3), (4, .int x4), (5, .int 0), (6, .int 0)]) (lvS_cons (lvS_cons (lvS_cons (lvS_cons (lvS_cons (lvS_cons (lvS_cons (lvS_nil (show ([6, 5, 0, 1, 2, 3, 4] : List Nat).Nodup by decide)) rfl) rfl) rfl) rfl) rfl) rfl) rfl) ?_
          exact i1 x1 x2 x3 x4 0 0 h (by omega) (by omega) (by omega) (by omega) K (by omega)
    · intro x1 x2 x3 x4 x5 x6 h b1 b2 b4 b6 K hm
      have rx3 := xc_rng x3
      have rx5 := xc_rng x5
      refine xi_iload (pc' := 39) (x := x6) kc_57_37 rfl rfl ?_
      refine xi_aload_n (pc' := 40) (x := 115) kc_57_39 rfl rfl ?_
      refine xp_115 K.1 (fun u1 u2 u3 u4 u5 u6 u7 u8 u9 u10 u11 u12 u13 bu1 bu2 bu3 bu4 bu5 bu6 bu7 bu8 bu9 bu10 bu11 bu12 bu13 A14 => ?_)
      refine xi_virtual (mj := 42) (as := []) (st1 := [.int x6]) (lv0 := [(0, .ref 115)]) kc_57_40 rfl rfl rfl rfl rfl A14 (Nat.le_of_ble_eq_true rfl) (hJ _ _ _ _ (by decide)) (xm_le ml_42 rfl) rfl ?_
      refine xi_iconst (pc' := 1) (v := 1) kc_42_0 rfl rfl ?_
      refine xi_aload_n (pc' := 2) (x := 115) kc_42_1 rfl rfl ?_
      refine xi_getfield (pc' := 5) (v := .int u5) kc_42_2 rfl rfl rfl A14 rfl ?_
      refine xi_bipush (pc' := 7) (v := 6) kc_42_5 rfl rfl ?_
      by_cases c15 : 6 ≤ u5.toInt
      · refine xi_cmt (pc' := 17) kc_42_7 rfl (xc_ge_t (X := u5.toInt) (Y := 6) rfl (by decide) (by omega)) ?_
        refine xi_bipush (pc' := 19) (v := 6) kc_42_17 rfl rfl ?_
        refine xi_ishl (pc' := 20) (v := 64) kc_42_19 rfl rfl ?_
        refine xi_ireturn kc_42_20 mr_42 rfl ?_
        show xw J ov (d + 8) 57 (43, [(0, .ref 115), (1, .int x1), (2, .int x2), (3, .int x3), (4, .int x4), (5, .int x5), (6, .int x6)], [.int 64, .int x6], h) _
        by_cases c16 : 64 ≤ x6.toInt
        · refine xi_cmt (pc' := 83) kc_57_43 rfl (xc_ge_t (X := x6.toInt) (Y := 64) rfl (by decide) (by omega)) ?_
          refine xi_aload_n (pc' := 84) (x := 115) kc_57_83 rfl rfl ?_
          refine xi_getfield (pc' := 87) (v := .ref 153) kc_57_84 rfl rfl rfl A14 rfl ?_
          refine xi_iload (pc' := 89) (x := x4) kc_57_87 rfl rfl ?_
          refine xcps4 (xk_arr K.1 xD_153) (fun y17 A17 hy17 ry17 => ?_)
          refine xcps4 (xj_get hy17 ry17 (i := x4) (by omega) (by omega)) (fun v18 ev18 bv18 dv18 => ?_)
          refine xi_iaload (pc' := 90) (v := v18) kc_57_89 rfl A17 (by decide) rfl (xi_in (by omega) (by rw [hy17]; omega)) ev18 ?_
          refine xi_iload (pc' := 92) (x := x5) kc_57_90 rfl rfl ?_
          refine xi_iload_n (pc' := 93) (x := x1) kc_57_92 rfl rfl ?_
          refine xi_iload (pc' := 95) (x := x5) kc_57_93 rfl rfl ?_
          refine xcps2 (α := Int32) ((x1 : Int32) - x5) (fun v19 ev19 => ?_)
          have rv19 := xc_rng v19
          refine xi_isub (pc' := 96) (v := v19) kc_57_95 rfl ev19 ?_
          by_cases c20 : x5.toInt ≤ v19.toInt
          · refine xi_cmt (pc' := 104) kc_57_96 rfl (xc_le_t (X := x5.toInt) (Y := v19.toInt) rfl rfl (by omega)) ?_
            refine xi_iload_n (pc' := 105) (x := x1) kc_57_104 rfl rfl ?_
            refine xi_iload (pc' := 107) (x := x5) kc_57_105 rfl rfl ?_
            refine xi_isub (pc' := 108) (v := v19) kc_57_107 rfl ev19 ?_
            refine xcps2 (α := Int32) ((v18 : Int32) * v19) (fun v21 ev21 => ?_)
            have rv21 := xc_rng v21
            refine xi_imul (pc' := 109) (v := v21) kc_57_108 rfl ev21 ?_
            refine xi_istore (pc' := 111) (lv' := [(6, .int v21), (0, .ref 115), (1, .int x1), (2, .int x2), (3, .int x3), (4, .int x4), (5, .int x5)]) kc_57_109 rfl rfl (xm_lt ml_57 rfl) ?_
            refine xi_aload_n (pc' := 112) (x := 115) kc_57_111 rfl rfl ?_
            refine xi_getfield (pc' := 115) (v := .ref 154) kc_57_112 rfl rfl rfl A14 rfl ?_
            refine xi_iload (pc' := 117) (x := x4) kc_57_115 rfl rfl ?_
            refine xcps4 (xk_arr K.1 xD_154) (fun y22 A22 hy22 ry22 => ?_)
            refine xcps4 (xj_get hy22 ry22 (i := x4) (by omega) (by omega)) (fun v23 ev23 bv23 dv23 => ?_)
            refine xi_iaload (pc' := 118) (v := v23) kc_57_117 rfl A22 (by decide) rfl (xi_in (by omega) (by rw [hy22]; omega)) ev23 ?_
            by_cases c24 : v23.toInt = 0
            · refine xi_iff (pc' := 121) kc_57_118 rfl (xc_ne_f (X := v23.toInt) (Y := 0) rfl (by decide) (by omega)) ?_
              refine xi_iload_n (pc' := 122) (x := x2) kc_57_121 rfl rfl ?_
              by_cases c25 : x2.toInt < 0
              · refine xi_ift (pc' := 131) kc_57_122 rfl (xc_lt_t (X := x2.toInt) (Y := 0) rfl (by decide) (by omega)) ?_
                refine xi_iload (pc' := 133) (x := x4) kc_57_131 rfl rfl ?_
                refine xi_istore_n (pc' := 134) (lv' := [(2, .int x4), (6, .int v21), (0, .ref 115), (1, .int x1), (3, .int x3), (4, .int x4), (5, .int x5)]) kc_57_133 rfl rfl (xm_lt ml_57 rfl) ?_
                refine xi_iload (pc' := 136) (x := v21) kc_57_134 rfl rfl ?_
                refine xi_istore_n (pc' := 137) (lv' := [(3, .int v21), (2, .int x4), (6, .int v21), (0, .ref 115), (1, .int x1), (4, .int x4), (5, .int x5)]) kc_57_136 rfl rfl (xm_lt ml_57 rfl) ?_
                refine xcps2 (α := Int32) (x4 + 1) (fun v26 ev26 => ?_)
                have zv26 : v26.toInt = (x4.toInt + 1) := by rw [← ev26]; exact (xz_add (X := x4.toInt) (Y := 1) rfl (by decide) (by omega) (by omega)).trans (by omega)
                refine xi_iinc (pc' := 140) (x := x4) (v := v26) (lv' := [(4, .int v26), (3, .int v21), (2, .int x4), (6, .int v21), (0, .ref 115), (1, .int x1), (5, .int x5)]) kc_57_137 rfl rfl ev26 rfl (xm_lt ml_57 rfl) ?_
                refine xi_goto (pc' := 18) kc_57_140 rfl ?_
                refine xw_lv (b := [(0, .ref 115), (1, .int x1), (2, .int x4), (3, .int v21), (4, .int v26)]) (lvS_cons (lvS_cons (lvS_cons (lvS_cons (lvS_cons (lvS_nil (show ([4, 3, 2, 6, 0, 1, 5] : List Nat).Nodup by decide)) rfl) rfl) rfl) rfl) rfl) ?_
                exact i0 x1 x4 v21 v26 h (by omega) (by omega) K (by omega)
              · refine xi_iff (pc' := 125) kc_57_122 rfl (xc_lt_f (X := x2.toInt) (Y := 0) rfl (by decide) (by omega)) ?_
                refine xi_iload (pc' := 127) (x := v21) kc_57_125 rfl rfl ?_
                refine xi_iload_n (pc' := 128) (x := x3) kc_57_127 rfl rfl ?_
                by_cases c27 : x3.toInt ≤ v21.toInt
                · refine xi_cmt (pc' := 137) kc_57_128 rfl (xc_ge_t (X := v21.toInt) (Y := x3.toInt) rfl rfl (by omega)) ?_
                  refine xcps2 (α := Int32) (x4 + 1) (fun v28 ev28 => ?_)
                  have zv28 : v28.toInt = (x4.toInt + 1) := by rw [← ev28]; exact (xz_add (X := x4.toInt) (Y := 1) rfl (by decide) (by omega) (by omega)).trans (by omega)
                  refine xi_iinc (pc' := 140) (x := x4) (v := v28) (lv' := [(4, .int v28), (6, .int v21), (0, .ref 115), (1, .int x1), (2, .int x2), (3, .int x3), (5, .int x5)]) kc_57_137 rfl rfl ev28 rfl (xm_lt ml_57 rfl) ?_
                  refine xi_goto (pc' := 18) kc_57_140 rfl ?_
                  refine xw_lv (b := [(0, .ref 115), (1, .int x1), (2, .int x2), (3, .int x3), (4, .int v28)]) (lvS_cons (lvS_cons (lvS_cons (lvS_cons (lvS_cons (lvS_nil (show ([4, 6, 0, 1, 2, 3, 5] : List Nat).Nodup by decide)) rfl) rfl) rfl) rfl) rfl) ?_
                  exact i0 x1 x2 x3 v28 h (by omega) (by omega) K (by omega)
                · refine xi_cmf (pc' := 131) kc_57_128 rfl (xc_ge_f (X := v21.toInt) (Y := x3.toInt) rfl rfl (by omega)) ?_
                  refine xi_iload (pc' := 133) (x := x4) kc_57_131 rfl rfl ?_
                  refine xi_istore_n (pc' := 134) (lv' := [(2, .int x4), (6, .int v21), (0, .ref 115), (1, .int x1), (3, .int x3), (4, .int x4), (5, .int x5)]) kc_57_133 rfl rfl (xm_lt ml_57 rfl) ?_
                  refine xi_iload (pc' := 136) (x := v21) kc_57_134 rfl rfl ?_
                  refine xi_istore_n (pc' := 137) (lv' := [(3, .int v21), (2, .int x4), (6, .int v21), (0, .ref 115), (1, .int x1), (4, .int x4), (5, .int x5)]) kc_57_136 rfl rfl (xm_lt ml_57 rfl) ?_
                  refine xcps2 (α := Int32) (x4 + 1) (fun v29 ev29 => ?_)
                  have zv29 : v29.toInt = (x4.toInt + 1) := by rw [← ev29]; exact (xz_add (X := x4.toInt) (Y := 1) rfl (by decide) (by omega) (by omega)).trans (by omega)
                  refine xi_iinc (pc' := 140) (x := x4) (v := v29) (lv' := [(4, .int v29), (3, .int v21), (2, .int x4), (6, .int v21), (0, .ref 115), (1, .int x1), (5, .int x5)]) kc_57_137 rfl rfl ev29 rfl (xm_lt ml_57 rfl) ?_
                  refine xi_goto (pc' := 18) kc_57_140 rfl ?_
                  refine xw_lv (b := [(0, .ref 115), (1, .int x1), (2, .int x4), (3, .int v21), (4, .int v29)]) (lvS_cons (lvS_cons (lvS_cons (lvS_cons (lvS_cons (lvS_nil (show ([4, 3, 2, 6, 0, 1, 5] : List Nat).Nodup by decide)) rfl) rfl) rfl) rfl) rfl) ?_
                  exact i0 x1 x4 v21 v29 h (by omega) (by omega) K (by omega)
            · refine xi_ift (pc' := 137) kc_57_118 rfl (xc_ne_t (X := v23.toInt) (Y := 0) rfl (by decide) (by omega)) ?_
              refine xcps2 (α := Int32) (x4 + 1) (fun v30 ev30 => ?_)
              have zv30 : v30.toInt = (x4.toInt + 1) := by rw [← ev30]; exact (xz_add (X := x4.toInt) (Y := 1) rfl (by decide) (by omega) (by omega)).trans (by omega)
              refine xi_iinc (pc' := 140) (x := x4) (v := v30) (lv' := [(4, .int v30), (6, .int v21), (0, .ref 115), (1, .int x1), (2, .int x2), (3, .int x3), (5, .int x5)]) kc_57_137 rfl rfl ev30 rfl (xm_lt ml_57 rfl) ?_
              refine xi_goto (pc' := 18) kc_57_140 rfl ?_
              refine xw_lv (b := [(0, .ref 115), (1, .int x1), (2, .int x2), (3, .int x3), (4, .int v30)]) (lvS_cons (lvS_cons (lvS_cons (lvS_cons (lvS_cons (lvS_nil (show ([4, 6, 0, 1, 2, 3, 5] : List Nat).Nodup by decide)) rfl) rfl) rfl) rfl) rfl) ?_
              exact i0 x1 x2 x3 v30 h (by omega) (by omega) K (by omega)
          · refine xi_cmf (pc' := 99) kc_57_96 rfl (xc_le_f (X := x5.toInt) (Y := v19.toInt) rfl rfl (by omega)) ?_
            refine xi_iload (pc' := 101) (x := x5) kc_57_99 rfl rfl ?_
            refine xi_goto (pc' := 108) kc_57_101 rfl ?_
            refine xcps2 (α := Int32) ((v18 : Int32) * x5) (fun v31 ev31 => ?_)
            have rv31 := xc_rng v31
            refine xi_imul (pc' := 109) (v := v31) kc_57_108 rfl ev31 ?_
            refine xi_istore (pc' := 111) (lv' := [(6, .int v31), (0, .ref 115), (1, .int x1), (2, .int x2), (3, .int x3), (4, .int x4), (5, .int x5)]) kc_57_109 rfl rfl (xm_lt ml_57 rfl) ?_
            refine xi_aload_n (pc' := 112) (x := 115) kc_57_111 rfl rfl ?_
            refine xi_getfield (pc' := 115) (v := .ref 154) kc_57_112 rfl rfl rfl A14 rfl ?_
            refine xi_iload (pc' := 117) (x := x4) kc_57_115 rfl rfl ?_
            refine xcps4 (xk_arr K.1 xD_154) (fun y32 A32 hy32 ry32 => ?_)
            refine xcps4 (xj_get hy32 ry32 (i := x4) (by omega) (by omega)) (fun v33 ev33 bv33 dv33 => ?_)
            refine xi_iaload (pc' := 118) (v := v33) kc_57_117 rfl A32 (by decide) rfl (xi_in (by omega) (by rw [hy32]; omega)) ev33 ?_
            by_cases c34 : v33.toInt = 0
            · refine xi_iff (pc' := 121) kc_57_118 rfl (xc_ne_f (X := v33.toInt) (Y := 0) rfl (by decide) (by omega)) ?_
              refine xi_iload_n (pc' := 122) (x := x2) kc_57_121 rfl rfl ?_
              by_cases c35 : x2.toInt < 0
              · refine xi_ift (pc' := 131) kc_57_122 rfl (xc_lt_t (X := x2.toInt) (Y := 0) rfl (by decide) (by omega)) ?_
                refine xi_iload (pc' := 133) (x := x4) kc_57_131 rfl rfl ?_
                refine xi_istore_n (pc' := 134) (lv' := [(2, .int x4), (6, .int v31), (0, .ref 115), (1, .int x1), (3, .int x3), (4, .int x4), (5, .int x5)]) kc_57_133 rfl rfl (xm_lt ml_57 rfl) ?_
                refine xi_iload (pc' := 136) (x := v31) kc_57_134 rfl rfl ?_
                refine xi_istore_n (pc' := 137) (lv' := [(3, .int v31), (2, .int x4), (6, .int v31), (0, .ref 115), (1, .int x1), (4, .int x4), (5, .int x5)]) kc_57_136 rfl rfl (xm_lt ml_57 rfl) ?_
                refine xcps2 (α := Int32) (x4 + 1) (fun v36 ev36 => ?_)
                have zv36 : v36.toInt = (x4.toInt + 1) := by rw [← ev36]; exact (xz_add (X := x4.toInt) (Y := 1) rfl (by decide) (by omega) (by omega)).trans (by omega)
                refine xi_iinc (pc' := 140) (x := x4) (v := v36) (lv' := [(4, .int v36), (3, .int v31), (2, .int x4), (6, .int v31), (0, .ref 115), (1, .int x1), (5, .int x5)]) kc_57_137 rfl rfl ev36 rfl (xm_lt ml_57 rfl) ?_
                refine xi_goto (pc' := 18) kc_57_140 rfl ?_
                refine xw_lv (b := [(0, .ref 115), (1, .int x1), (2, .int x4), (3, .int v31), (4, .int v36)]) (lvS_cons (lvS_cons (lvS_cons (lvS_cons (lvS_cons (lvS_nil (show ([4, 3, 2, 6, 0, 1, 5] : List Nat).Nodup by decide)) rfl) rfl) rfl) rfl) rfl) ?_
                exact i0 x1 x4 v31 v36 h (by omega) (by omega) K (by omega)
              · refine xi_iff (pc' := 125) kc_57_122 rfl (xc_lt_f (X := x2.toInt) (Y := 0) rfl (by decide) (by omega)) ?_
                refine xi_iload (pc' := 127) (x := v31) kc_57_125 rfl rfl ?_
                refine xi_iload_n (pc' := 128) (x := x3) kc_57_127 rfl rfl ?_
                by_cases c37 : x3.toInt ≤ v31.toInt
                · refine xi_cmt (pc' := 137) kc_57_128 rfl (xc_ge_t (X := v31.toInt) (Y := x3.toInt) rfl rfl (by omega)) ?_
                  refine xcps2 (α := Int32) (x4 + 1) (fun v38 ev38 => ?_)
                  have zv38 : v38.toInt = (x4.toInt + 1) := by rw [← ev38]; exact (xz_add (X := x4.toInt) (Y := 1) rfl (by decide) (by omega) (by omega)).trans (by omega)
                  refine xi_iinc (pc' := 140) (x := x4) (v := v38) (lv' := [(4, .int v38), (6, .int v31), (0, .ref 115), (1, .int x1), (2, .int x2), (3, .int x3), (5, .int x5)]) kc_57_137 rfl rfl ev38 rfl (xm_lt ml_57 rfl) ?_
                  refine xi_goto (pc' := 18) kc_57_140 rfl ?_
                  refine xw_lv (b := [(0, .ref 115), (1, .int x1), (2, .int x2), (3, .int x3), (4, .int v38)]) (lvS_cons (lvS_cons (lvS_cons (lvS_cons (lvS_cons (lvS_nil (show ([4, 6, 0, 1, 2, 3, 5] : List Nat).Nodup by decide)) rfl) rfl) rfl) rfl) rfl) ?_
                  exact i0 x1 x2 x3 v38 h (by omega) (by omega) K (by omega)
                · refine xi_cmf (pc' := 131) kc_57_128 rfl (xc_ge_f (X := v31.toInt) (Y := x3.toInt) rfl rfl (by omega)) ?_
                  refine xi_iload (pc' := 133) (x := x4) kc_57_131 rfl rfl ?_
                  refine xi_istore_n (pc' := 134) (lv' := [(2, .int x4), (6, .int v31), (0, .ref 115), (1, .int x1), (3, .int x3), (4, .int x4), (5, .int x5)]) kc_57_133 rfl rfl (xm_lt ml_57 rfl) ?_
                  refine xi_iload (pc' := 136) (x := v31) kc_57_134 rfl rfl ?_
                  refine xi_istore_n (pc' := 137) (lv' := [(3, .int v31), (2, .int x4), (6, .int v31), (0, .ref 115), (1, .int x1), (4, .int x4), (5, .int x5)]) kc_57_136 rfl rfl (xm_lt ml_57 rfl) ?_
                  refine xcps2 (α := Int32) (x4 + 1) (fun v39 ev39 => ?_)
                  have zv39 : v39.toInt = (x4.toInt + 1) := by rw [← ev39]; exact (xz_add (X := x4.toInt) (Y := 1) rfl (by decide) (by omega) (by omega)).trans (by omega)
                  refine xi_iinc (pc' := 140) (x := x4) (v := v39) (lv' := [(4, .int v39), (3, .int v31), (2, .int x4), (6, .int v31), (0, .ref 115), (1, .int x1), (5, .int x5)]) kc_57_137 rfl rfl ev39 rfl (xm_lt ml_57 rfl) ?_
                  refine xi_goto (pc' := 18) kc_57_140 rfl ?_
                  refine xw_lv (b := [(0, .ref 115), (1, .int x1), (2, .int x4), (3, .int v31), (4, .int v39)]) (lvS_cons (lvS_cons (lvS_cons (lvS_cons (lvS_cons (lvS_nil (show ([4, 3, 2, 6, 0, 1, 5] : List Nat).Nodup by decide)) rfl) rfl) rfl) rfl) rfl) ?_
                  exact i0 x1 x4 v31 v39 h (by omega) (by omega) K (by omega)
            · refine xi_ift (pc' := 137) kc_57_118 rfl (xc_ne_t (X := v33.toInt) (Y := 0) rfl (by decide) (by omega)) ?_
              refine xcps2 (α := Int32) (x4 + 1) (fun v40 ev40 => ?_)
              have zv40 : v40.toInt = (x4.toInt + 1) := by rw [← ev40]; exact (xz_add (X := x4.toInt) (Y := 1) rfl (by decide) (by omega) (by omega)).trans (by omega)
              refine xi_iinc (pc' := 140) (x := x4) (v := v40) (lv' := [(4, .int v40), (6, .int v31), (0, .ref 115), (1, .int x1), (2, .int x2), (3, .int x3), (5, .int x5)]) kc_57_137 rfl rfl ev40 rfl (xm_lt ml_57 rfl) ?_
              refine xi_goto (pc' := 18) kc_57_140 rfl ?_
              refine xw_lv (b := [(0, .ref 115), (1, .int x1), (2, .int x2), (3, .int x3), (4, .int v40)]) (lvS_cons (lvS_cons (lvS_cons (lvS_cons (lvS_cons (lvS_nil (show ([4, 6, 0, 1, 2, 3, 5] : List Nat).Nodup by decide)) rfl) rfl) rfl) rfl) rfl) ?_
              exact i0 x1 x2 x3 v40 h (by omega) (by omega) K (by omega)
        · refine xi_cmf (pc' := 46) kc_57_43 rfl (xc_ge_f (X := x6.toInt) (Y := 64) rfl (by decide) (by omega)) ?_
          refine xi_iload (pc' := 48) (x := x5) kc_57_46 rfl rfl ?_
          refine xi_aload_n (pc' := 49) (x := 115) kc_57_48 rfl rfl ?_
          refine xi_iload (pc' := 51) (x := x6) kc_57_49 rfl rfl ?_
          refine xi_virtual (mj := 53) (as := [.int x6]) (st1 := [.int x5]) (lv0 := [(0, .ref 115), (1, .int x6)]) kc_57_51 rfl rfl rfl rfl rfl A14 (Nat.le_of_ble_eq_true rfl) (hJ _ _ _ _ (by decide)) (xm_le ml_53 rfl) rfl ?_
          refine mt_53_0 hJ hov1 hov2 (d := d + 6) (x1 := x6) K.1 (by first | omega | decide) (fun r41 hh42 br41 K43 => ?_)
          have K44 := xk_tr K K43 rfl
          refine xp_115 K44.1 (fun u45 u46 u47 u48 u49 u50 u51 u52 u53 u54 u55 u56 u57 bu45 bu46 bu47 bu48 bu49 bu50 bu51 bu52 bu53 bu54 bu55 bu56 bu57 A58 => ?_)
          have e59 : u2 = u46 := xk_eqi (q := 1) K43 rfl A14 A58 rfl rfl
          subst e59
          have e60 : u4 = u48 := xk_eqi (q := 18) K43 rfl A14 A58 rfl rfl
          subst e60
          show xw J ov (d + 8) 57 (54, [(0, .ref 115), (1, .int x1), (2, .int x2), (3, .int x3), (4, .int x4), (5, .int x5), (6, .int x6)], [.int r41, .int x5], hh42) _
          by_cases c61 : r41.toInt = 0
          · refine xi_ift (pc' := 73) kc_57_54 rfl (xc_eq_t (X := r41.toInt) (Y := 0) rfl (by decide) (by omega)) ?_
            refine xi_iconst (pc' := 74) (v := 0) kc_57_73 rfl rfl ?_
            refine xcps2 (α := Int32) (x5 + 0) (fun v62 ev62 => ?_)
            have zv62 : v62.toInt = x5.toInt := by rw [← ev62]; exact (xz_add (X := x5.toInt) (Y := 0) rfl (by decide) (by omega) (by omega)).trans (by omega)
            refine xi_iadd (pc' := 75) (v := v62) kc_57_74 rfl ev62 ?_
            refine xi_istore (pc' := 77) (lv' := [(5, .int v62), (0, .ref 115), (1, .int x1), (2, .int x2), (3, .int x3), (4, .int x4), (6, .int x6)]) kc_57_75 rfl rfl (xm_lt ml_57 rfl) ?_
            refine xcps2 (α := Int32) (x6 + 1) (fun v63 ev63 => ?_)
            have zv63 : v63.toInt = (x6.toInt + 1) := by rw [← ev63]; exact (xz_add (X := x6.toInt) (Y := 1) rfl (by decide) (by omega) (by omega)).trans (by omega)
            refine xi_iinc (pc' := 80) (x := x6) (v := v63) (lv' := [(6, .int v63), (5, .int v62), (0, .ref 115), (1, .int x1), (2, .int x2), (3, .int x3), (4, .int x4)]) kc_57_77 rfl rfl ev63 rfl (xm_lt ml_57 rfl) ?_
            refine xi_goto (pc' := 37) kc_57_80 rfl ?_
            refine xw_lv (b := [(0, .ref 115), (1, .int x1), (2, .int x2), (3, .int x3), (4, .int x4), (5, .int v62), (6, .int v63)]) (lvS_cons (lvS_cons (lvS_cons (lvS_cons (lvS_cons (lvS_cons (lvS_cons (lvS_nil (show ([6, 5, 0, 1, 2, 3, 4] : List Nat).Nodup by decide)) rfl) rfl) rfl) rfl) rfl) rfl) rfl) ?_
            exact i1 x1 x2 x3 x4 v62 v63 hh42 (by omega) (by omega) (by omega) (by omega) K44 (by omega)
          · refine xi_iff (pc' := 57) kc_57_54 rfl (xc_eq_f (X := r41.toInt) (Y := 0) rfl (by decide) (by omega)) ?_
            refine xi_aload_n (pc' := 58) (x := 115) kc_57_57 rfl rfl ?_
            refine xi_iload (pc' := 60) (x := x4) kc_57_58 rfl rfl ?_
            refine xi_iload (pc' := 62) (x := x6) kc_57_60 rfl rfl ?_
            refine xi_virtual (mj := 54) (as := [.int x4, .int x6]) (st1 := [.int x5]) (lv0 := [(0, .ref 115), (1, .int x4), (2, .int x6)]) kc_57_62 rfl rfl rfl rfl rfl A58 (Nat.le_of_ble_eq_true rfl) (hJ _ _ _ _ (by decide)) (xm_le ml_54 rfl) rfl ?_
            refine xi_aload_n (pc' := 1) (x := 115) kc_54_0 rfl rfl ?_
            refine xi_getfield (pc' := 4) (v := .ref 152) kc_54_1 rfl rfl rfl A58 rfl ?_
            refine xi_iload_n (pc' := 5) (x := x4) kc_54_4 rfl rfl ?_
            refine xcps4 (xk_arr K44.1 xD_152) (fun y64 A64 hy64 ry64 => ?_)
            refine xcps4 (xj_get hy64 ry64 (i := x4) (by omega) (by omega)) (fun v65 ev65 bv65 dv65 => ?_)
            refine xi_iaload (pc' := 6) (v := v65) kc_54_5 rfl A64 (by decide) rfl (xi_in (by omega) (by rw [hy64]; omega)) ev65 ?_
            refine xi_iload_n (pc' := 7) (x := x6) kc_54_6 rfl rfl ?_
            refine xcps2 (α := Int32) ((v65 : Int32) &&& x6) (fun v66 ev66 => ?_)
            have rv66 := xc_rng v66
            refine xi_iand (pc' := 8) (v := v66) kc_54_7 rfl ev66 ?_
            by_cases c67 : v66.toInt = 0
            · refine xi_ift (pc' := 15) kc_54_8 rfl (xc_eq_t (X := v66.toInt) (Y := 0) rfl (by decide) (by omega)) ?_
              refine xi_iconst (pc' := 16) (v := 2) kc_54_15 rfl rfl ?_
              refine xi_ireturn kc_54_16 mr_54 rfl ?_
              show xw J ov (d + 8) 57 (65, [(0, .ref 115), (1, .int x1), (2, .int x2), (3, .int x3), (4, .int x4), (5, .int x5), (6, .int x6)], [.int 2, .int x5], hh42) _
              refine xi_iconst (pc' := 66) (v := 1) kc_57_65 rfl rfl ?_
              refine xi_cmt (pc' := 73) kc_57_66 rfl rfl ?_
              refine xi_iconst (pc' := 74) (v := 0) kc_57_73 rfl rfl ?_
              refine xcps2 (α := Int32) (x5 + 0) (fun v68 ev68 => ?_)
              have zv68 : v68.toInt = x5.toInt := by rw [← ev68]; exact (xz_add (X := x5.toInt) (Y := 0) rfl (by decide) (by omega) (by omega)).trans (by omega)
              refine xi_iadd (pc' := 75) (v := v68) kc_57_74 rfl ev68 ?_
              refine xi_istore (pc' := 77) (lv' := [(5, .int v68), (0, .ref 115), (1, .int x1), (2, .int x2), (3, .int x3), (4, .int x4), (6, .int x6)]) kc_57_75 rfl rfl (xm_lt ml_57 rfl) ?_
              refine xcps2 (α := Int32) (x6 + 1) (fun v69 ev69 => ?_)
              have zv69 : v69.toInt = (x6.toInt + 1) := by rw [← ev69]; exact (xz_add (X := x6.toInt) (Y := 1) rfl (by decide) (by omega) (by omega)).trans (by omega)
              refine xi_iinc (pc' := 80) (x := x6) (v := v69) (lv' := [(6, .int v69), (5, .int v68), (0, .ref 115), (1, .int x1), (2, .int x2), (3, .int x3), (4, .int x4)]) kc_57_77 rfl rfl ev69 rfl (xm_lt ml_57 rfl) ?_
              refine xi_goto (pc' := 37) kc_57_80 rfl ?_
              refine xw_lv (b := [(0, .ref 115), (1, .int x1), (2, .int x2), (3, .int x3), (4, .int x4), (5, .int v68), (6, .int v69)]) (lvS_cons (lvS_cons (lvS_cons (lvS_cons (lvS_cons (lvS_cons (lvS_cons (lvS_nil (show ([6, 5, 0, 1, 2, 3, 4] : List Nat).Nodup by decide)) rfl) rfl) rfl) rfl) rfl) rfl) rfl) ?_
              exact i1 x1 x2 x3 x4 v68 v69 hh42 (by omega) (by omega) (by omega) (by omega) K44 (by omega)
            · refine xi_iff (pc' := 11) kc_54_8 rfl (xc_eq_f (X := v66.toInt) (Y := 0) rfl (by decide) (by omega)) ?_
              refine xi_iconst (pc' := 12) (v := 1) kc_54_11 rfl rfl ?_
              refine xi_goto (pc' := 16) kc_54_12 rfl ?_
              refine xi_ireturn kc_54_16 mr_54 rfl ?_
              show xw J ov (d + 8) 57 (65, [(0, .ref 115), (1, .int x1), (2, .int x2), (3, .int x3), (4, .int x4), (5, .int x5), (6, .int x6)], [.int 1, .int x5], hh42) _
              refine xi_iconst (pc' := 66) (v := 1) kc_57_65 rfl rfl ?_
              refine xi_cmf (pc' := 69) kc_57_66 rfl rfl ?_
              refine xi_iconst (pc' := 70) (v := 1) kc_57_69 rfl rfl ?_
              refine xi_goto (pc' := 74) kc_57_70 rfl ?_
              refine xcps2 (α := Int32) ((x5 : Int32) + 1) (fun v70 ev70 => ?_)
              have rv70 := xc_rng v70
              refine xi_iadd (pc' := 75) (v := v70) kc_57_74 rfl ev70 ?_
              refine xi_istore (pc' := 77) (lv' := [(5, .int v70), (0, .ref 115), (1, .int x1), (2, .int x2), (3, .int x3), (4, .int x4), (6, .int x6)]) kc_57_75 rfl rfl (xm_lt ml_57 rfl) ?_
              refine xcps2 (α := Int32) (x6 + 1) (fun v71 ev71 => ?_)
              have zv71 : v71.toInt = (x6.toInt + 1) := by rw [← ev71]; exact (xz_add (X := x6.toInt) (Y := 1) rfl (by decide) (by omega) (by omega)).trans (by omega)
              refine xi_iinc (pc' := 80) (x := x6) (v := v71) (lv' := [(6, .int v71), (5, .int v70), (0, .ref 115), (1, .int x1), (2, .int x2), (3, .int x3), (4, .int x4)]) kc_57_77 rfl rfl ev71 rfl (xm_lt ml_57 rfl) ?_
              refine xi_goto (pc' := 37) kc_57_80 rfl ?_
              refine xw_lv (b := [(0, .ref 115), (1, .int x1), (2, .int x2), (3, .int x3), (4, .int x4), (5, .int v70), (6, .int v71)]) (lvS_cons (lvS_cons (lvS_cons (lvS_cons (lvS_cons (lvS_cons (lvS_cons (lvS_nil (show ([6, 5, 0, 1, 2, 3, 4] : List Nat).Nodup by decide)) rfl) rfl) rfl) rfl) rfl) rfl) rfl) ?_
              exact i1 x1 x2 x3 x4 v70 v71 hh42 (by omega) (by omega) (by omega) (by omega) K44 (by omega)
      · refine xi_cmf (pc' := 10) kc_42_7 rfl (xc_ge_f (X := u5.toInt) (Y := 6) rfl (by decide) (by omega)) ?_
        refine xi_aload_n (pc' := 11) (x := 115) kc_42_10 rfl rfl ?_
        refine xi_getfield (pc' := 14) (v := .int u5) kc_42_11 rfl rfl rfl A14 rfl ?_
        refine xi_goto (pc' := 19) kc_42_14 rfl ?_
        refine xcps2 (α := Int32) ((1 : Int32) <<< (u5 &&& 31)) (fun v72 ev72 => ?_)
        have rv72 := xc_rng v72
        have bv72 : 1 ≤ v72.toInt ∧ v72.toInt ≤ 64 := by rw [← ev72]; exact xj_shl6 (by omega) (by omega)
        refine xi_ishl (pc' := 20) (v := v72) kc_42_19 rfl ev72 ?_
        refine xi_ireturn kc_42_20 mr_42 rfl ?_
        show xw J ov (d + 8) 57 (43, [(0, .ref 115), (1, .int x1), (2, .int x2), (3, .int x3), (4, .int x4), (5, .int x5), (6, .int x6)], [.int v72, .int x6], h) _
        by_cases c73 : v72.toInt ≤ x6.toInt
        · refine xi_cmt (pc' := 83) kc_57_43 rfl (xc_ge_t (X := x6.toInt) (Y := v72.toInt) rfl rfl (by omega)) ?_
          refine xi_aload_n (pc' := 84) (x := 115) kc_57_83 rfl rfl ?_
          refine xi_getfield (pc' := 87) (v := .ref 153) kc_57_84 rfl rfl rfl A14 rfl ?_
          refine xi_iload (pc' := 89) (x := x4) kc_57_87 rfl rfl ?_
          refine xcps4 (xk_arr K.1 xD_153) (fun y74 A74 hy74 ry74 => ?_)
          refine xcps4 (xj_get hy74 ry74 (i := x4) (by omega) (by omega)) (fun v75 ev75 bv75 dv75 => ?_)
          refine xi_iaload (pc' := 90) (v := v75) kc_57_89 rfl A74 (by decide) rfl (xi_in (by omega) (by rw [hy74]; omega)) ev75 ?_
          refine xi_iload (pc' := 92) (x := x5) kc_57_90 rfl rfl ?_
          refine xi_iload_n (pc' := 93) (x := x1) kc_57_92 rfl rfl ?_
          refine xi_iload (pc' := 95) (x := x5) kc_57_93 rfl rfl ?_
          refine xcps2 (α := Int32) ((x1 : Int32) - x5) (fun v76 ev76 => ?_)
          have rv76 := xc_rng v76
          refine xi_isub (pc' := 96) (v := v76) kc_57_95 rfl ev76 ?_
          by_cases c77 : x5.toInt ≤ v76.toInt
          · refine xi_cmt (pc' := 104) kc_57_96 rfl (xc_le_t (X := x5.toInt) (Y := v76.toInt) rfl rfl (by omega)) ?_
            refine xi_iload_n (pc' := 105) (x := x1) kc_57_104 rfl rfl ?_
            refine xi_iload (pc' := 107) (x := x5) kc_57_105 rfl rfl ?_
            refine xi_isub (pc' := 108) (v := v76) kc_57_107 rfl ev76 ?_
            refine xcps2 (α := Int32) ((v75 : Int32) * v76) (fun v78 ev78 => ?_)
            have rv78 := xc_rng v78
            refine xi_imul (pc' := 109) (v := v78) kc_57_108 rfl ev78 ?_
            refine xi_istore (pc' := 111) (lv' := [(6, .int v78), (0, .ref 115), (1, .int x1), (2, .int x2), (3, .int x3), (4, .int x4), (5, .int x5)]) kc_57_109 rfl rfl (xm_lt ml_57 rfl) ?_
            refine xi_aload_n (pc' := 112) (x := 115) kc_57_111 rfl rfl ?_
            refine xi_getfield (pc' := 115) (v := .ref 154) kc_57_112 rfl rfl rfl A14 rfl ?_
            refine xi_iload (pc' := 117) (x := x4) kc_57_115 rfl rfl ?_
            refine xcps4 (xk_arr K.1 xD_154) (fun y79 A79 hy79 ry79 => ?_)
            refine xcps4 (xj_get hy79 ry79 (i := x4) (by omega) (by omega)) (fun v80 ev80 bv80 dv80 => ?_)
            refine xi_iaload (pc' := 118) (v := v80) kc_57_117 rfl A79 (by decide) rfl (xi_in (by omega) (by rw [hy79]; omega)) ev80 ?_
            by_cases c81 : v80.toInt = 0
            · refine xi_iff (pc' := 121) kc_57_118 rfl (xc_ne_f (X := v80.toInt) (Y := 0) rfl (by decide) (by omega)) ?_
              refine xi_iload_n (pc' := 122) (x := x2) kc_57_121 rfl rfl ?_
              by_cases c82 : x2.toInt < 0
              · refine xi_ift (pc' := 131) kc_57_122 rfl (xc_lt_t (X := x2.toInt) (Y := 0) rfl (by decide) (by omega)) ?_
                refine xi_iload (pc' := 133) (x := x4) kc_57_131 rfl rfl ?_
                refine xi_istore_n (pc' := 134) (lv' := [(2, .int x4), (6, .int v78), (0, .ref 115), (1, .int x1), (3, .int x3), (4, .int x4), (5, .int x5)]) kc_57_133 rfl rfl (xm_lt ml_57 rfl) ?_
                refine xi_iload (pc' := 136) (x := v78) kc_57_134 rfl rfl ?_
                refine xi_istore_n (pc' := 137) (lv' := [(3, .int v78), (2, .int x4), (6, .int v78), (0, .ref 115), (1, .int x1), (4, .int x4), (5, .int x5)]) kc_57_136 rfl rfl (xm_lt ml_57 rfl) ?_
                refine xcps2 (α := Int32) (x4 + 1) (fun v83 ev83 => ?_)
                have zv83 : v83.toInt = (x4.toInt + 1) := by rw [← ev83]; exact (xz_add (X := x4.toInt) (Y := 1) rfl (by decide) (by omega) (by omega)).trans (by omega)
                refine xi_iinc (pc' := 140) (x := x4) (v := v83) (lv' := [(4, .int v83), (3, .int v78), (2, .int x4), (6, .int v78), (0, .ref 115), (1, .int x1), (5, .int x5)]) kc_57_137 rfl rfl ev83 rfl (xm_lt ml_57 rfl) ?_
                refine xi_goto (pc' := 18) kc_57_140 rfl ?_
                refine xw_lv (b := [(0, .ref 115), (1, .int x1), (2, .int x4), (3, .int v78), (4, .int v83)]) (lvS_cons (lvS_cons (lvS_cons (lvS_cons (lvS_cons (lvS_nil (show ([4, 3, 2, 6, 0, 1, 5] : List Nat).Nodup by decide)) rfl) rfl) rfl) rfl) rfl) ?_
                exact i0 x1 x4 v78 v83 h (by omega) (by omega) K (by omega)
              · refine xi_iff (pc' := 125) kc_57_122 rfl (xc_lt_f (X := x2.toInt) (Y := 0) rfl (by decide) (by omega)) ?_
                refine xi_iload (pc' := 127) (x := v78) kc_57_125 rfl rfl ?_
                refine xi_iload_n (pc' := 128) (x := x3) kc_57_127 rfl rfl ?_
                by_cases c84 : x3.toInt ≤ v78.toInt
                · refine xi_cmt (pc' := 137) kc_57_128 rfl (xc_ge_t (X := v78.toInt) (Y := x3.toInt) rfl rfl (by omega)) ?_
                  refine xcps2 (α := Int32) (x4 + 1) (fun v85 ev85 => ?_)
                  have zv85 : v85.toInt = (x4.toInt + 1) := by rw [← ev85]; exact (xz_add (X := x4.toInt) (Y := 1) rfl (by decide) (by omega) (by omega)).trans (by omega)
                  refine xi_iinc (pc' := 140) (x := x4) (v := v85) (lv' := [(4, .int v85), (6, .int v78), (0, .ref 115), (1, .int x1), (2, .int x2), (3, .int x3), (5, .int x5)]) kc_57_137 rfl rfl ev85 rfl (xm_lt ml_57 rfl) ?_
                  refine xi_goto (pc' := 18) kc_57_140 rfl ?_
                  refine xw_lv (b := [(0, .ref 115), (1, .int x1), (2, .int x2), (3, .int x3), (4, .int v85)]) (lvS_cons (lvS_cons (lvS_cons (lvS_cons (lvS_cons (lvS_nil (show ([4, 6, 0, 1, 2, 3, 5] : List Nat).Nodup by decide)) rfl) rfl) rfl) rfl) rfl) ?_
                  exact i0 x1 x2 x3 v85 h (by omega) (by omega) K (by omega)
                · refine xi_cmf (pc' := 131) kc_57_128 rfl (xc_ge_f (X := v78.toInt) (Y := x3.toInt) rfl rfl (by omega)) ?_
                  refine xi_iload (pc' := 133) (x := x4) kc_57_131 rfl rfl ?_
                  refine xi_istore_n (pc' := 134) (lv' := [(2, .int x4), (6, .int v78), (0, .ref 115), (1, .int x1), (3, .int x3), (4, .int x4), (5, .int x5)]) kc_57_133 rfl rfl (xm_lt ml_57 rfl) ?_
                  refine xi_iload (pc' := 136) (x := v78) kc_57_134 rfl rfl ?_
                  refine xi_istore_n (pc' := 137) (lv' := [(3, .int v78), (2, .int x4), (6, .int v78), (0, .ref 115), (1, .int x1), (4, .int x4), (5, .int x5)]) kc_57_136 rfl rfl (xm_lt ml_57 rfl) ?_
                  refine xcps2 (α := Int32) (x4 + 1) (fun v86 ev86 => ?_)
                  have zv86 : v86.toInt = (x4.toInt + 1) := by rw [← ev86]; exact (xz_add (X := x4.toInt) (Y := 1) rfl (by decide) (by omega) (by omega)).trans (by omega)
                  refine xi_iinc (pc' := 140) (x := x4) (v := v86) (lv' := [(4, .int v86), (3, .int v78), (2, .int x4), (6, .int v78), (0, .ref 115), (1, .int x1), (5, .int x5)]) kc_57_137 rfl rfl ev86 rfl (xm_lt ml_57 rfl) ?_
                  refine xi_goto (pc' := 18) kc_57_140 rfl ?_
                  refine xw_lv (b := [(0, .ref 115), (1, .int x1), (2, .int x4), (3, .int v78), (4, .int v86)]) (lvS_cons (lvS_cons (lvS_cons (lvS_cons (lvS_cons (lvS_nil (show ([4, 3, 2, 6, 0, 1, 5] : List Nat).Nodup by decide)) rfl) rfl) rfl) rfl) rfl) ?_
                  exact i0 x1 x4 v78 v86 h (by omega) (by omega) K (by omega)
            · refine xi_ift (pc' := 137) kc_57_118 rfl (xc_ne_t (X := v80.toInt) (Y := 0) rfl (by decide) (by omega)) ?_
              refine xcps2 (α := Int32) (x4 + 1) (fun v87 ev87 => ?_)
              have zv87 : v87.toInt = (x4.toInt + 1) := by rw [← ev87]; exact (xz_add (X := x4.toInt) (Y := 1) rfl (by decide) (by omega) (by omega)).trans (by omega)
              refine xi_iinc (pc' := 140) (x := x4) (v := v87) (lv' := [(4, .int v87), (6, .int v78), (0, .ref 115), (1, .int x1), (2, .int x2), (3, .int x3), (5, .int x5)]) kc_57_137 rfl rfl ev87 rfl (xm_lt ml_57 rfl) ?_
              refine xi_goto (pc' := 18) kc_57_140 rfl ?_
              refine xw_lv (b := [(0, .ref 115), (1, .int x1), (2, .int x2), (3, .int x3), (4, .int v87)]) (lvS_cons (lvS_cons (lvS_cons (lvS_cons (lvS_cons (lvS_nil (show ([4, 6, 0, 1, 2, 3, 5] : List Nat).Nodup by decide)) rfl) rfl) rfl) rfl) rfl) ?_
              exact i0 x1 x2 x3 v87 h (by omega) (by omega) K (by omega)
          · refine xi_cmf (pc' := 99) kc_57_96 rfl (xc_le_f (X := x5.toInt) (Y := v76.toInt) rfl rfl (by omega)) ?_
            refine xi_iload (pc' := 101) (x := x5) kc_57_99 rfl rfl ?_
            refine xi_goto (pc' := 108) kc_57_101 rfl ?_
            refine xcps2 (α := Int32) ((v75 : Int32) * x5) (fun v88 ev88 => ?_)
            have rv88 := xc_rng v88
            refine xi_imul (pc' := 109) (v := v88) kc_57_108 rfl ev88 ?_
            refine xi_istore (pc' := 111) (lv' := [(6, .int v88), (0, .ref 115), (1, .int x1), (2, .int x2), (3, .int x3), (4, .int x4), (5, .int x5)]) kc_57_109 rfl rfl (xm_lt ml_57 rfl) ?_
            refine xi_aload_n (pc' := 112) (x := 115) kc_57_111 rfl rfl ?_
            refine xi_getfield (pc' := 115) (v := .ref 154) kc_57_112 rfl rfl rfl A14 rfl ?_
            refine xi_iload (pc' := 117) (x := x4) kc_57_115 rfl rfl ?_
            refine xcps4 (xk_arr K.1 xD_154) (fun y89 A89 hy89 ry89 => ?_)
            refine xcps4 (xj_get hy89 ry89 (i := x4) (by omega) (by omega)) (fun v90 ev90 bv90 dv90 => ?_)
            refine xi_iaload (pc' := 118) (v := v90) kc_57_117 rfl A89 (by decide) rfl (xi_in (by omega) (by rw [hy89]; omega)) ev90 ?_
            by_cases c91 : v90.toInt = 0
            · refine xi_iff (pc' := 121) kc_57_118 rfl (xc_ne_f (X := v90.toInt) (Y := 0) rfl (by decide) (by omega)) ?_
              refine xi_iload_n (pc' := 122) (x := x2) kc_57_121 rfl rfl ?_
              by_cases c92 : x2.toInt < 0
              · refine xi_ift (pc' := 131) kc_57_122 rfl (xc_lt_t (X := x2.toInt) (Y := 0) rfl (by decide) (by omega)) ?_
                refine xi_iload (pc' := 133) (x := x4) kc_57_131 rfl rfl ?_
                refine xi_istore_n (pc' := 134) (lv' := [(2, .int x4), (6, .int v88), (0, .ref 115), (1, .int x1), (3, .int x3), (4, .int x4), (5, .int x5)]) kc_57_133 rfl rfl (xm_lt ml_57 rfl) ?_
                refine xi_iload (pc' := 136) (x := v88) kc_57_134 rfl rfl ?_
                refine xi_istore_n (pc' := 137) (lv' := [(3, .int v88), (2, .int x4), (6, .int v88), (0, .ref 115), (1, .int x1), (4, .int x4), (5, .int x5)]) kc_57_136 rfl rfl (xm_lt ml_57 rfl) ?_
                refine xcps2 (α := Int32) (x4 + 1) (fun v93 ev93 => ?_)
                have zv93 : v93.toInt = (x4.toInt + 1) := by rw [← ev93]; exact (xz_add (X := x4.toInt) (Y := 1) rfl (by decide) (by omega) (by omega)).trans (by omega)
                refine xi_iinc (pc' := 140) (x := x4) (v := v93) (lv' := [(4, .int v93), (3, .int v88), (2, .int x4), (6, .int v88), (0, .ref 115), (1, .int x1), (5, .int x5)]) kc_57_137 rfl rfl ev93 rfl (xm_lt ml_57 rfl) ?_
                refine xi_goto (pc' := 18) kc_57_140 rfl ?_
                refine xw_lv (b := [(0, .ref 115), (1, .int x1), (2, .int x4), (3, .int v88), (4, .int v93)]) (lvS_cons (lvS_cons (lvS_cons (lvS_cons (lvS_cons (lvS_nil (show ([4, 3, 2, 6, 0, 1, 5] : List Nat).Nodup by decide)) rfl) rfl) rfl) rfl) rfl) ?_
                exact i0 x1 x4 v88 v93 h (by omega) (by omega) K (by omega)
              · refine xi_iff (pc' := 125) kc_57_122 rfl (xc_lt_f (X := x2.toInt) (Y := 0) rfl (by decide) (by omega)) ?_
                refine xi_iload (pc' := 127) (x := v88) kc_57_125 rfl rfl ?_
                refine xi_iload_n (pc' := 128) (x := x3) kc_57_127 rfl rfl ?_
                by_cases c94 : x3.toInt ≤ v88.toInt
                · refine xi_cmt (pc' := 137) kc_57_128 rfl (xc_ge_t (X := v88.toInt) (Y := x3.toInt) rfl rfl (by omega)) ?_
                  refine xcps2 (α := Int32) (x4 + 1) (fun v95 ev95 => ?_)
                  have zv95 : v95.toInt = (x4.toInt + 1) := by rw [← ev95]; exact (xz_add (X := x4.toInt) (Y := 1) rfl (by decide) (by omega) (by omega)).trans (by omega)
                  refine xi_iinc (pc' := 140) (x := x4) (v := v95) (lv' := [(4, .int v95), (6, .int v88), (0, .ref 115), (1, .int x1), (2, .int x2), (3, .int x3), (5, .int x5)]) kc_57_137 rfl rfl ev95 rfl (xm_lt ml_57 rfl) ?_
                  refine xi_goto (pc' := 18) kc_57_140 rfl ?_
                  refine xw_lv (b := [(0, .ref 115), (1, .int x1), (2, .int x2), (3, .int x3), (4, .int v95)]) (lvS_cons (lvS_cons (lvS_cons (lvS_cons (lvS_cons (lvS_nil (show ([4, 6, 0, 1, 2, 3, 5] : List Nat).Nodup by decide)) rfl) rfl) rfl) rfl) rfl) ?_
                  exact i0 x1 x2 x3 v95 h (by omega) (by omega) K (by omega)
                · refine xi_cmf (pc' := 131) kc_57_128 rfl (xc_ge_f (X := v88.toInt) (Y := x3.toInt) rfl rfl (by omega)) ?_
                  refine xi_iload (pc' := 133) (x := x4) kc_57_131 rfl rfl ?_
                  refine xi_istore_n (pc' := 134) (lv' := [(2, .int x4), (6, .int v88), (0, .ref 115), (1, .int x1), (3, .int x3), (4, .int x4), (5, .int x5)]) kc_57_133 rfl rfl (xm_lt ml_57 rfl) ?_
                  refine xi_iload (pc' := 136) (x := v88) kc_57_134 rfl rfl ?_
                  refine xi_istore_n (pc' := 137) (lv' := [(3, .int v88), (2, .int x4), (6, .int v88), (0, .ref 115), (1, .int x1), (4, .int x4), (5, .int x5)]) kc_57_136 rfl rfl (xm_lt ml_57 rfl) ?_
                  refine xcps2 (α := Int32) (x4 + 1) (fun v96 ev96 => ?_)
                  have zv96 : v96.toInt = (x4.toInt + 1) := by rw [← ev96]; exact (xz_add (X := x4.toInt) (Y := 1) rfl (by decide) (by omega) (by omega)).trans (by omega)
                  refine xi_iinc (pc' := 140) (x := x4) (v := v96) (lv' := [(4, .int v96), (3, .int v88), (2, .int x4), (6, .int v88), (0, .ref 115), (1, .int x1), (5, .int x5)]) kc_57_137 rfl rfl ev96 rfl (xm_lt ml_57 rfl) ?_
                  refine xi_goto (pc' := 18) kc_57_140 rfl ?_
                  refine xw_lv (b := [(0, .ref 115), (1, .int x1), (2, .int x4), (3, .int v88), (4, .int v96)]) (lvS_cons (lvS_cons (lvS_cons (lvS_cons (lvS_cons (lvS_nil (show ([4, 3, 2, 6, 0, 1, 5] : List Nat).Nodup by decide)) rfl) rfl) rfl) rfl) rfl) ?_
                  exact i0 x1 x4 v88 v96 h (by omega) (by omega) K (by omega)
            · refine xi_ift (pc' := 137) kc_57_118 rfl (xc_ne_t (X := v90.toInt) (Y := 0) rfl (by decide) (by omega)) ?_
              refine xcps2 (α := Int32) (x4 + 1) (fun v97 ev97 => ?_)
              have zv97 : v97.toInt = (x4.toInt + 1) := by rw [← ev97]; exact (xz_add (X := x4.toInt) (Y := 1) rfl (by decide) (by omega) (by omega)).trans (by omega)
              refine xi_iinc (pc' := 140) (x := x4) (v := v97) (lv' := [(4, .int v97), (6, .int v88), (0, .ref 115), (1, .int x1), (2, .int x2), (3, .int x3), (5, .int x5)]) kc_57_137 rfl rfl ev97 rfl (xm_lt ml_57 rfl) ?_
              refine xi_goto (pc' := 18) kc_57_140 rfl ?_
              refine xw_lv (b := [(0, .ref 115), (1, .int x1), (2, .int x2), (3, .int x3), (4, .int v97)]) (lvS_cons (lvS_cons (lvS_cons (lvS_cons (lvS_cons (lvS_nil (show ([4, 6, 0, 1, 2, 3, 5] : List Nat).Nodup by decide)) rfl) rfl) rfl) rfl) rfl) ?_
              exact i0 x1 x2 x3 v97 h (by omega) (by omega) K (by omega)
        · refine xi_cmf (pc' := 46) kc_57_43 rfl (xc_ge_f (X := x6.toInt) (Y := v72.toInt) rfl rfl (by omega)) ?_
          refine xi_iload (pc' := 48) (x := x5) kc_57_46 rfl rfl ?_
          refine xi_aload_n (pc' := 49) (x := 115) kc_57_48 rfl rfl ?_
          refine xi_iload (pc' := 51) (x := x6) kc_57_49 rfl rfl ?_
          refine xi_virtual (mj := 53) (as := [.int x6]) (st1 := [.int x5]) (lv0 := [(0, .ref 115), (1, .int x6)]) kc_57_51 rfl rfl rfl rfl rfl A14 (Nat.le_of_ble_eq_true rfl) (hJ _ _ _ _ (by decide)) (xm_le ml_53 rfl) rfl ?_
          refine mt_53_0 hJ hov1 hov2 (d := d + 6) (x1 := x6) K.1 (by first | omega | decide) (fun r98 hh99 br98 K100 => ?_)
          have K101 := xk_tr K K100 rfl
          refine xp_115 K101.1 (fun u102 u103 u104 u105 u106 u107 u108 u109 u110 u111 u112 u113 u114 bu102 bu103 bu104 bu105 bu106 bu107 bu108 bu109 bu110 bu111 bu112 bu113 bu114 A115 => ?_)
          have e116 : u2 = u103 := xk_eqi (q := 1) K100 rfl A14 A115 rfl rfl
          subst e116
          have e117 : u4 = u105 := xk_eqi (q := 18) K100 rfl A14 A115 rfl rfl
          subst e117
          show xw J ov (d + 8) 57 (54, [(0, .ref 115), (1, .int x1), (2, .int x2), (3, .int x3), (4, .int x4), (5, .int x5), (6, .int x6)], [.int r98, .int x5], hh99) _
          by_cases c118 : r98.toInt = 0
          · refine xi_ift (pc' := 73) kc_57_54 rfl (xc_eq_t (X := r98.toInt) (Y := 0) rfl (by decide) (by omega)) ?_
            refine xi_iconst (pc' := 74) (v := 0) kc_57_73 rfl rfl ?_
            refine xcps2 (α := Int32) (x5 + 0) (fun v119 ev119 => ?_)
            have zv119 : v119.toInt = x5.toInt := by rw [← ev119]; exact (xz_add (X := x5.toInt) (Y := 0) rfl (by decide) (by omega) (by omega)).trans (by omega)
            refine xi_iadd (pc' := 75) (v := v119) kc_57_74 rfl ev119 ?_
            refine xi_istore (pc' := 77) (lv' := [(5, .int v119), (0, .ref 115), (1, .int x1), (2, .int x2), (3, .int x3), (4, .int x4), (6, .int x6)]) kc_57_75 rfl rfl (xm_lt ml_57 rfl) ?_
            refine xcps2 (α := Int32) (x6 + 1) (fun v120 ev120 => ?_)
            have zv120 : v120.toInt = (x6.toInt + 1) := by rw [← ev120]; exact (xz_add (X := x6.toInt) (Y := 1) rfl (by decide) (by omega) (by omega)).trans (by omega)
            refine xi_iinc (pc' := 80) (x := x6) (v := v120) (lv' := [(6, .int v120), (5, .int v119), (0, .ref 115), (1, .int x1), (2, .int x2), (3, .int x3), (4, .int x4)]) kc_57_77 rfl rfl ev120 rfl (xm_lt ml_57 rfl) ?_
            refine xi_goto (pc' := 37) kc_57_80 rfl ?_
            refine xw_lv (b := [(0, .ref 115), (1, .int x1), (2, .int x2), (3, .int x3), (4, .int x4), (5, .int v119), (6, .int v120)]) (lvS_cons (lvS_cons (lvS_cons (lvS_cons (lvS_cons (lvS_cons (lvS_cons (lvS_nil (show ([6, 5, 0, 1, 2, 3, 4] : List Nat).Nodup by decide)) rfl) rfl) rfl) rfl) rfl) rfl) rfl) ?_
            exact i1 x1 x2 x3 x4 v119 v120 hh99 (by omega) (by omega) (by omega) (by omega) K101 (by omega)
          · refine xi_iff (pc' := 57) kc_57_54 rfl (xc_eq_f (X := r98.toInt) (Y := 0) rfl (by decide) (by omega)) ?_
            refine xi_aload_n (pc' := 58) (x := 115) kc_57_57 rfl rfl ?_
            refine xi_iload (pc' := 60) (x := x4) kc_57_58 rfl rfl ?_
            refine xi_iload (pc' := 62) (x := x6) kc_57_60 rfl rfl ?_
            refine xi_virtual (mj := 54) (as := [.int x4, .int x6]) (st1 := [.int x5]) (lv0 := [(0, .ref 115), (1, .int x4), (2, .int x6)]) kc_57_62 rfl rfl rfl rfl rfl A115 (Nat.le_of_ble_eq_true rfl) (hJ _ _ _ _ (by decide)) (xm_le ml_54 rfl) rfl ?_
            refine xi_aload_n (pc' := 1) (x := 115) kc_54_0 rfl rfl ?_
            refine xi_getfield (pc' := 4) (v := .ref 152) kc_54_1 rfl rfl rfl A115 rfl ?_
            refine xi_iload_n (pc' := 5) (x := x4) kc_54_4 rfl rfl ?_
            refine xcps4 (xk_arr K101.1 xD_152) (fun y121 A121 hy121 ry121 => ?_)
            refine xcps4 (xj_get hy121 ry121 (i := x4) (by omega) (by omega)) (fun v122 ev122 bv122 dv122 => ?_)
            refine xi_iaload (pc' := 6) (v := v122) kc_54_5 rfl A121 (by decide) rfl (xi_in (by omega) (by rw [hy121]; omega)) ev122 ?_
            refine xi_iload_n (pc' := 7) (x := x6) kc_54_6 rfl rfl ?_
            refine xcps2 (α := Int32) ((v122 : Int32) &&& x6) (fun v123 ev123 => ?_)
            have rv123 := xc_rng v123
            refine xi_iand (pc' := 8) (v := v123) kc_54_7 rfl ev123 ?_
            by_cases c124 : v123.toInt = 0
            · refine xi_ift (pc' := 15) kc_54_8 rfl (xc_eq_t (X := v123.toInt) (Y := 0) rfl (by decide) (by omega)) ?_
              refine xi_iconst (pc' := 16) (v := 2) kc_54_15 rfl rfl ?_
              refine xi_ireturn kc_54_16 mr_54 rfl ?_
              show xw J ov (d + 8) 57 (65, [(0, .ref 115), (1, .int x1), (2, .int x2), (3, .int x3), (4, .int x4), (5, .int x5), (6, .int x6)], [.int 2, .int x5], hh99) _
              refine xi_iconst (pc' := 66) (v := 1) kc_57_65 rfl rfl ?_
              refine xi_cmt (pc' := 73) kc_57_66 rfl rfl ?_
              refine xi_iconst (pc' := 74) (v := 0) kc_57_73 rfl rfl ?_
              refine xcps2 (α := Int32) (x5 + 0) (fun v125 ev125 => ?_)
              have zv125 : v125.toInt = x5.toInt := by rw [← ev125]; exact (xz_add (X := x5.toInt) (Y := 0) rfl (by decide) (by omega) (by omega)).trans (by omega)
              refine xi_iadd (pc' := 75) (v := v125) kc_57_74 rfl ev125 ?_
              refine xi_istore (pc' := 77) (lv' := [(5, .int v125), (0, .ref 115), (1, .int x1), (2, .int x2), (3, .int x3), (4, .int x4), (6, .int x6)]) kc_57_75 rfl rfl (xm_lt ml_57 rfl) ?_
              refine xcps2 (α := Int32) (x6 + 1) (fun v126 ev126 => ?_)
              have zv126 : v126.toInt = (x6.toInt + 1) := by rw [← ev126]; exact (xz_add (X := x6.toInt) (Y := 1) rfl (by decide) (by omega) (by omega)).trans (by omega)
              refine xi_iinc (pc' := 80) (x := x6) (v := v126) (lv' := [(6, .int v126), (5, .int v125), (0, .ref 115), (1, .int x1), (2, .int x2), (3, .int x3), (4, .int x4)]) kc_57_77 rfl rfl ev126 rfl (xm_lt ml_57 rfl) ?_
              refine xi_goto (pc' := 37) kc_57_80 rfl ?_
              refine xw_lv (b := [(0, .ref 115), (1, .int x1), (2, .int x2), (3, .int x3), (4, .int x4), (5, .int v125), (6, .int v126)]) (lvS_cons (lvS_cons (lvS_cons (lvS_cons (lvS_cons (lvS_cons (lvS_cons (lvS_nil (show ([6, 5, 0, 1, 2, 3, 4] : List Nat).Nodup by decide)) rfl) rfl) rfl) rfl) rfl) rfl) rfl) ?_
              exact i1 x1 x2 x3 x4 v125 v126 hh99 (by omega) (by omega) (by omega) (by omega) K101 (by omega)
            · refine xi_iff (pc' := 11) kc_54_8 rfl (xc_eq_f (X := v123.toInt) (Y := 0) rfl (by decide) (by omega)) ?_
              refine xi_iconst (pc' := 12) (v := 1) kc_54_11 rfl rfl ?_
              refine xi_goto (pc' := 16) kc_54_12 rfl ?_
              refine xi_ireturn kc_54_16 mr_54 rfl ?_
              show xw J ov (d + 8) 57 (65, [(0, .ref 115), (1, .int x1), (2, .int x2), (3, .int x3), (4, .int x4), (5, .int x5), (6, .int x6)], [.int 1, .int x5], hh99) _
              refine xi_iconst (pc' := 66) (v := 1) kc_57_65 rfl rfl ?_
              refine xi_cmf (pc' := 69) kc_57_66 rfl rfl ?_
              refine xi_iconst (pc' := 70) (v := 1) kc_57_69 rfl rfl ?_
              refine xi_goto (pc' := 74) kc_57_70 rfl ?_
              refine xcps2 (α := Int32) ((x5 : Int32) + 1) (fun v127 ev127 => ?_)
              have rv127 := xc_rng v127
              refine xi_iadd (pc' := 75) (v := v127) kc_57_74 rfl ev127 ?_
              refine xi_istore (pc' := 77) (lv' := [(5, .int v127), (0, .ref 115), (1, .int x1), (2, .int x2), (3, .int x3), (4, .int x4), (6, .int x6)]) kc_57_75 rfl rfl (xm_lt ml_57 rfl) ?_
              refine xcps2 (α := Int32) (x6 + 1) (fun v128 ev128 => ?_)
              have zv128 : v128.toInt = (x6.toInt + 1) := by rw [← ev128]; exact (xz_add (X := x6.toInt) (Y := 1) rfl (by decide) (by omega) (by omega)).trans (by omega)
              refine xi_iinc (pc' := 80) (x := x6) (v := v128) (lv' := [(6, .int v128), (5, .int v127), (0, .ref 115), (1, .int x1), (2, .int x2), (3, .int x3), (4, .int x4)]) kc_57_77 rfl rfl ev128 rfl (xm_lt ml_57 rfl) ?_
              refine xi_goto (pc' := 37) kc_57_80 rfl ?_
              refine xw_lv (b := [(0, .ref 115), (1, .int x1), (2, .int x2), (3, .int x3), (4, .int x4), (5, .int v127), (6, .int v128)]) (lvS_cons (lvS_cons (lvS_cons (lvS_cons (lvS_cons (lvS_cons (lvS_cons (lvS_nil (show ([6, 5, 0, 1, 2, 3, 4] : List Nat).Nodup by decide)) rfl) rfl) rfl) rfl) rfl) rfl) rfl) ?_
              exact i1 x1 x2 x3 x4 v127 v128 hh99 (by omega) (by omega) (by omega) (by omega) K101 (by omega)
set_option maxHeartbeats 4000000 in
theorem mt_57_0 {J : xe_J} {ov : List (List Int32)} (hJ : ∀ d mj as h, mj ≠ xe_loff → J d mj as h = none) (hov1 : ov[1]? = some [10, 0, 0, 0, 0, 0]) (hov2 : ov[2]? = some [99, 30, 50, 50, 1, 99999]) {d : Nat} {Q : Option Value → xe_H → Prop} {h : xe_H} (T : xt h) (kk : (∀ (r : Int32) (h' : xe_H), ((-9) ≤ r.toInt ∧ r.toInt ≤ 7) → xk [(0, 9), (115, 1), (83, 0), (29, 0), (31, 0), (33, 0), (35, 0), (37, 0), (39, 0), (41, 0), (43, 0), (45, 0), (47, 0), (49, 0), (51, 0), (125, 0), (66, 8), (115, 18), (71, 0), (132, 0)] h h' → Q (some (.int r)) h')) : xw J ov (d + 8) 57 (0, [(0, .ref 115)], [], h) Q := by
  have K : xk [(0, 9), (115, 1), (83, 0), (29, 0), (31, 0), (33, 0), (35, 0), (37, 0), (39, 0), (41, 0), (43, 0), (45, 0), (47, 0), (49, 0), (51, 0), (125, 0), (66, 8), (115, 18), (71, 0), (132, 0)] h h := xk_re T
  refine xi_aload_n (pc' := 1) (x := 115) kc_57_0 rfl rfl ?_
  refine xi_iconst (pc' := 2) (v := 0) kc_57_1 rfl rfl ?_
  refine xp_115 K.1 (fun u1 u2 u3 u4 u5 u6 u7 u8 u9 u10 u11 u12 u13 bu1 bu2 bu3 bu4 bu5 bu6 bu7 bu8 bu9 bu10 bu11 bu12 bu13 A14 => ?_)
  refine xi_putfield (pc' := 5) (fs' := [.int 0, .int u2, .ref 116, .ref 117, .ref 118, .ref 119, .ref 120, .ref 121, .ref 122, .ref 123, .ref 124, .ref 125, .ref 126, .ref 127, .ref 128, .ref 129, .int u3, .ref 130, .int u4, .ref 131, .ref 132, .ref 133, .ref 134, .int u5, .ref 135, .ref 136, .ref 137, .ref 138, .ref 139, .ref 140, .ref 141, .ref 142, .int u6, .int u7, .int u8, .ref 143, .ref 144, .ref 145, .ref 146, .ref 147, .ref 148, .int u9, .ref 149, .ref 150, .ref 151, .int u10, .ref 152, .ref 153, .ref 154, .ref 155, .ref 156, .ref 157, .ref 158, .ref 159, .int u11, .ref 160, .int u12, .ref 161, .ref 162, .ref 163, .ref 164, .int u13, .ref 165, .ref 166]) kc_57_2 rfl rfl rfl A14 rfl rfl rfl (Nat.le_of_ble_eq_true rfl) rfl (fun hh16 eh15 => ?_)
  have K17 := xk_pf (k := 0) (v := 0) K (xk_wf rfl) xD_115 A14 rfl (by first | omega | decide) (by first | omega | decide) eh15 rfl
  refine xi_aload_n (pc' := 6) (x := 115) kc_57_5 rfl rfl ?_
  refine xi_virtual (mj := 52) (as := []) (st1 := []) (lv0 := [(0, .ref 115)]) kc_57_6 rfl rfl rfl rfl rfl eh15.1 (Nat.le_of_ble_eq_true rfl) (hJ _ _ _ _ (by decide)) (xm_le ml_52 rfl) rfl ?_
  refine mt_52_0 hJ hov1 hov2 (d := d)  K17.1 (fun r18 hh19 K20 => ?_)
  have br18 := xc_rng r18
  have K21 := xk_tr K17 K20 rfl
  refine xp_115 K21.1 (fun u22 u23 u24 u25 u26 u27 u28 u29 u30 u31 u32 u33 u34 bu22 bu23 bu24 bu25 bu26 bu27 bu28 bu29 bu30 bu31 bu32 bu33 bu34 A35 => ?_)
  have e36 : u2 = u23 := xk_eqi (q := 1) K20 rfl eh15.1 A35 rfl rfl
  subst e36
  have e37 : u4 = u25 := xk_eqi (q := 18) K20 rfl eh15.1 A35 rfl rfl
  subst e37
  show xw J ov (d + 8) 57 (9, [(0, .ref 115)], [.int r18], hh19) _
  refine xi_istore_n (pc' := 10) (lv' := [(1, .int r18), (0, .ref 115)]) kc_57_9 rfl rfl (xm_lt ml_57 rfl) ?_
  refine xi_bipush (pc' := 12) (v := (-9)) kc_57_10 rfl rfl ?_
  refine xi_istore_n (pc' := 13) (lv' := [(2, .int (-9)), (1, .int r18), (0, .ref 115)]) kc_57_12 rfl rfl (xm_lt ml_57 rfl) ?_
  refine xi_iconst (pc' := 14) (v := 0) kc_57_13 rfl rfl ?_
  refine xi_istore_n (pc' := 15) (lv' := [(3, .int 0), (2, .int (-9)), (1, .int r18), (0, .ref 115)]) kc_57_14 rfl rfl (xm_lt ml_57 rfl) ?_
  refine xi_iconst (pc' := 16) (v := 0) kc_57_15 rfl rfl ?_
  refine xi_istore (pc' := 18) (lv' := [(4, .int 0), (3, .int 0), (2, .int (-9)), (1, .int r18), (0, .ref 115)]) kc_57_16 rfl rfl (xm_lt ml_57 rfl) ?_
  have zcm9 : ((-9) : Int32).toInt = (-9) := by decide
  have zc0 : (0 : Int32).toInt = 0 := by decide
  refine xw_lv (b := [(0, .ref 115), (1, .int r18), (2, .int (-9)), (3, .int 0), (4, .int 0)]) (lvS_cons (lvS_cons (lvS_cons (lvS_cons (lvS_cons (lvS_nil (show ([4, 3, 2, 1, 0] : List Nat).Nodup by decide)) rfl) rfl) rfl) rfl) rfl) ?_
  exact (lp_57_0 hJ hov1 hov2 (d := d) (hb := hh19) (fun r9 h9 b9 K9 => kk r9 h9 b9 (xk_tr K21 K9 rfl)) 594).1 r18 (-9) 0 0 hh19 (by omega) (by omega) (xk_re K21.1) (by omega)
set_option maxHeartbeats 4000000 in
theorem lp_60_0 {J : xe_J} {ov : List (List Int32)} (hJ : ∀ d mj as h, mj ≠ xe_loff → J d mj as h = none) (hov1 : ov[1]? = some [10, 0, 0, 0, 0, 0]) (hov2 : ov[2]? = some [99, 30, 50, 50, 1, 99999]) {d : Nat} {Q : Option Value → xe_H → Prop} {hb : xe_H} (kk : (∀ (r : Int32) (h' : xe_H), (0 ≤ r.toInt ∧ r.toInt ≤ 1) → xk [(0, 9), (115, 1), (83, 0), (29, 0), (31, 0), (33, 0), (35, 0), (37, 0), (39, 0), (41, 0), (43, 0), (45, 0), (47, 0), (49, 0), (51, 0), (125, 0), (66, 8), (115, 18), (71, 0), (132, 0)] hb h' → Q (some (.int r)) h')) : ∀ m : Nat, (∀ (x1 : Int32) (x3 : Int32) (x4 : Int32) (x5 : Int32) (h : xe_H), (0 ≤ x1.toInt ∧ x1.toInt ≤ 63) → (0 ≤ x3.toInt ∧ x3.toInt ≤ 6560) → (0 ≤ x4.toInt ∧ x4.toInt ≤ 1) → (0 ≤ x5.toInt ∧ x5.toInt ≤ 8) → xk [(0, 9), (115, 1), (83, 0), (29, 0), (31, 0), (33, 0), (35, 0), (37, 0), (39, 0), (41, 0), (43, 0), (45, 0), (47, 0), (49, 0), (51, 0), (125, 0), (66, 8), (115, 18), (71, 0), (132, 0)] hb h → (-1) * x5.toInt + 8 < (m : Int) → xw J ov (d + 2) 60 (12, [(0, .ref 115), (1, .int x1), (3, .int x3), (4, .int x4), (5, .int x5)], [], h) Q) := by
  intro m
  induction m with
  | zero =>
    intro x1 x3 x4 x5 h b1 b3 b4 b5 K hm; exfalso; omega
  | succ m ih =>
    have i0 := ih
    intro x1 x3 x4 x5 h b1 b3 b4 b5 K hm
    refine xi_iload (pc' := 14) (x := x5) kc_60_12 rfl rfl ?_
    refine xi_aload_n (pc' := 15) (x := 115) kc_60_14 rfl rfl ?_
    refine xp_115 K.1 (fun u1 u2 u3 u4 u5 u6 u7 u8 u9 u10 u11 u12 u13 bu1 bu2 bu3 bu4 bu5 bu6 bu7 bu8 bu9 bu10 bu11 bu12 bu13 A14 => ?_)
    refine xi_getfield (pc' := 18) (v := .int u10) kc_60_15 rfl rfl rfl A14 rfl ?_
    by_cases c15 : u10.toInt ≤ x5.toInt
    · refine xi_cmt (pc' := 62) kc_60_18 rfl (xc_ge_t (X := x5.toInt) (Y := u10.toInt) rfl rfl (by omega)) ?_
      refine xi_iload (pc' := 64) (x := x4) kc_60_62 rfl rfl ?_
      by_cases c16 : x4.toInt = 0
      · have qx4 : x4 = 0 := xc_of (Eq.trans (by omega) (show (0 : Int) = (0 : Int32).toInt by decide))
        subst qx4
        refine xi_ireturn kc_60_64 mr_60 rfl ?_
        have zc0 : (0 : Int32).toInt = 0 := by decide
        exact kk 0 h (by omega) K
      have qx4 : x4 = 1 := xc_of (Eq.trans (by omega) (show (1 : Int) = (1 : Int32).toInt by decide))
      subst qx4
      refine xi_ireturn kc_60_64 mr_60 rfl ?_
      have zc1 : (1 : Int32).toInt = 1 := by decide
      exact kk 1 h (by omega) K
    · refine xi_cmf (pc' := 21) kc_60_18 rfl (xc_ge_f (X := x5.toInt) (Y := u10.toInt) rfl rfl (by omega)) ?_
      refine xi_iload (pc' := 23) (x := x4) kc_60_21 rfl rfl ?_
      by_cases c17 : x4.toInt = 0
      · refine xi_ift (pc' := 62) kc_60_23 rfl (xc_eq_t (X := x4.toInt) (Y := 0) rfl (by decide) (by omega)) ?_
        refine xi_iload (pc' := 64) (x := x4) kc_60_62 rfl rfl ?_
        have qx4 : x4 = 0 := xc_of (Eq.trans (by omega) (show (0 : Int) = (0 : Int32).toInt by decide))
        subst qx4
        refine xi_ireturn kc_60_64 mr_60 rfl ?_
        have zc0 : (0 : Int32).toInt = 0 := by decide
        exact kk 0 h (by omega) K
      · refine xi_iff (pc' := 26) kc_60_23 rfl (xc_eq_f (X := x4.toInt) (Y := 0) rfl (by decide) (by omega)) ?_
        refine xi_iload_n (pc' := 27) (x := x3) kc_60_26 rfl rfl ?_
        refine xi_iconst (pc' := 28) (v := 3) kc_60_27 rfl rfl ?_
        refine xcps2 (α := Int32) (x3 - x3 / 3 * 3) (fun v18 ev18 => ?_)
        have dv18 : v18.toInt = x3.toInt % 3 := by rw [← ev18]; exact xz_reme (X := x3.toInt) (Y := 3) rfl (by decide) (by omega) (by decide)
        have bv18 : 0 ≤ v18.toInt ∧ v18.toInt ≤ 2 := by omega
        refine xi_irem (pc' := 29) (v := v18) kc_60_28 rfl ev18 (by decide) ?_
        by_cases c19 : v18.toInt = 0
        · refine xi_ift (pc' := 45) kc_60_29 rfl (xc_eq_t (X := v18.toInt) (Y := 0) rfl (by decide) (by omega)) ?_
          refine xi_iconst (pc' := 46) (v := 1) kc_60_45 rfl rfl ?_
          refine xi_goto (pc' := 50) kc_60_46 rfl ?_
          refine xi_istore (pc' := 52) (lv' := [(4, .int 1), (0, .ref 115), (1, .int x1), (3, .int x3), (5, .int x5)]) kc_60_50 rfl rfl (xm_lt ml_60 rfl) ?_
          refine xi_iload_n (pc' := 53) (x := x3) kc_60_52 rfl rfl ?_
          refine xi_iconst (pc' := 54) (v := 3) kc_60_53 rfl rfl ?_
          refine xcps2 (α := Int32) (x3 / 3) (fun v20 ev20 => ?_)
          have dv20 : v20.toInt = x3.toInt / 3 := by rw [← ev20]; exact xz_dive (X := x3.toInt) (Y := 3) rfl (by decide) (by omega) (by decide)
          have bv20 : 0 ≤ v20.toInt ∧ v20.toInt ≤ 2186 := by omega
          refine xi_idiv (pc' := 55) (v := v20) kc_60_54 rfl ev20 (by decide) ?_
          refine xi_istore_n (pc' := 56) (lv' := [(3, .int v20), (4, .int 1), (0, .ref 115), (1, .int x1), (5, .int x5)]) kc_60_55 rfl rfl (xm_lt ml_60 rfl) ?_
          refine xcps2 (α := Int32) (x5 + 1) (fun v21 ev21 => ?_)
          have zv21 : v21.toInt = (x5.toInt + 1) := by rw [← ev21]; exact (xz_add (X := x5.toInt) (Y := 1) rfl (by decide) (by omega) (by omega)).trans (by omega)
          refine xi_iinc (pc' := 59) (x := x5) (v := v21) (lv' := [(5, .int v21), (3, .int v20), (4, .int 1), (0, .ref 115), (1, .int x1)]) kc_60_56 rfl rfl ev21 rfl (xm_lt ml_60 rfl) ?_
          refine xi_goto (pc' := 12) kc_60_59 rfl ?_
          have zc1 : (1 : Int32).toInt = 1 := by decide
          refine xw_lv (b := [(0, .ref 115), (1, .int x1), (3, .int v20), (4, .int 1), (5, .int v21)]) (lvS_cons (lvS_cons (lvS_cons (lvS_cons (lvS_cons (lvS_nil (show ([5, 3, 4, 0, 1] : List Nat).Nodup by decide)) rfl) rfl) rfl) rfl) rfl) ?_
          exact i0 x1 v20 1 v21 h (by omega) (by omega) (by omega) (by omega) K (by omega)
        · refine xi_iff (pc' := 32) kc_60_29 rfl (xc_eq_f (X := v18.toInt) (Y := 0) rfl (by decide) (by omega)) ?_
          refine xi_iload_n (pc' := 33) (x := x3) kc_60_32 rfl rfl ?_
          refine xi_iconst (pc' := 34) (v := 3) kc_60_33 rfl rfl ?_
          refine xi_irem (pc' := 35) (v := v18) kc_60_34 rfl ev18 (by decide) ?_
          refine xi_aload_n (pc' := 36) (x := 115) kc_60_35 rfl rfl ?_
          refine xi_iload (pc' := 38) (x := x5) kc_60_36 rfl rfl ?_
          refine xi_iload_n (pc' := 39) (x := x1) kc_60_38 rfl rfl ?_
          refine xi_virtual (mj := 54) (as := [.int x5, .int x1]) (st1 := [.int v18]) (lv0 := [(0, .ref 115), (1, .int x5), (2, .int x1)]) kc_60_39 rfl rfl rfl rfl rfl A14 (Nat.le_of_ble_eq_true rfl) (hJ _ _ _ _ (by decide)) (xm_le ml_54 rfl) rfl ?_
          refine xi_aload_n (pc' := 1) (x := 115) kc_54_0 rfl rfl ?_
          refine xi_getfield (pc' := 4) (v := .ref 152) kc_54_1 rfl rfl rfl A14 rfl ?_
          refine xi_iload_n (pc' := 5) (x := x5) kc_54_4 rfl rfl ?_
          refine xcps4 (xk_arr K.1 xD_152) (fun y22 A22 hy22 ry22 => ?_)
          refine xcps4 (xj_get hy22 ry22 (i := x5) (by omega) (by omega)) (fun v23 ev23 bv23 dv23 => ?_)
          refine xi_iaload (pc' := 6) (v := v23) kc_54_5 rfl A22 (by decide) rfl (xi_in (by omega) (by rw [hy22]; omega)) ev23 ?_
          refine xi_iload_n (pc' := 7) (x := x1) kc_54_6 rfl rfl ?_
          refine xcps2 (α := Int32) ((v23 : Int32) &&& x1) (fun v24 ev24 => ?_)
          have rv24 := xc_rng v24
          refine xi_iand (pc' := 8) (v := v24) kc_54_7 rfl ev24 ?_
          by_cases c25 : v24.toInt = 0
          · refine xi_ift (pc' := 15) kc_54_8 rfl (xc_eq_t (X := v24.toInt) (Y := 0) rfl (by decide) (by omega)) ?_
            refine xi_iconst (pc' := 16) (v := 2) kc_54_15 rfl rfl ?_
            refine xi_ireturn kc_54_16 mr_54 rfl ?_
            show xw J ov (d + 2) 60 (42, [(0, .ref 115), (1, .int x1), (3, .int x3), (4, .int x4), (5, .int x5)], [.int 2, .int v18], h) _
            by_cases c26 : v18.toInt = 2
            · refine xi_cmf (pc' := 45) kc_60_42 rfl (xc_ne_f (X := v18.toInt) (Y := 2) rfl (by decide) (by omega)) ?_
              refine xi_iconst (pc' := 46) (v := 1) kc_60_45 rfl rfl ?_
              refine xi_goto (pc' := 50) kc_60_46 rfl ?_
              refine xi_istore (pc' := 52) (lv' := [(4, .int 1), (0, .ref 115), (1, .int x1), (3, .int x3), (5, .int x5)]) kc_60_50 rfl rfl (xm_lt ml_60 rfl) ?_
              refine xi_iload_n (pc' := 53) (x := x3) kc_60_52 rfl rfl ?_
              refine xi_iconst (pc' := 54) (v := 3) kc_60_53 rfl rfl ?_
              refine xcps2 (α := Int32) (x3 / 3) (fun v27 ev27 => ?_)
              have dv27 : v27.toInt = x3.toInt / 3 := by rw [← ev27]; exact xz_dive (X := x3.toInt) (Y := 3) rfl (by decide) (by omega) (by decide)
              have bv27 : 0 ≤ v27.toInt ∧ v27.toInt ≤ 2186 := by omega
              refine xi_idiv (pc' := 55) (v := v27) kc_60_54 rfl ev27 (by decide) ?_
              refine xi_istore_n (pc' := 56) (lv' := [(3, .int v27), (4, .int 1), (0, .ref 115), (1, .int x1), (5, .int x5)]) kc_60_55 rfl rfl (xm_lt ml_60 rfl) ?_
              refine xcps2 (α := Int32) (x5 + 1) (fun v28 ev28 => ?_)
              have zv28 : v28.toInt = (x5.toInt + 1) := by rw [← ev28]; exact (xz_add (X := x5.toInt) (Y := 1) rfl (by decide) (by omega) (by omega)).trans (by omega)
              refine xi_iinc (pc' := 59) (x := x5) (v := v28) (lv' := [(5, .int v28), (3, .int v27), (4, .int 1), (0, .ref 115), (1, .int x1)]) kc_60_56 rfl rfl ev28 rfl (xm_lt ml_60 rfl) ?_
              refine xi_goto (pc' := 12) kc_60_59 rfl ?_
              have zc1 : (1 : Int32).toInt = 1 := by decide
              refine xw_lv (b := [(0, .ref 115), (1, .int x1), (3, .int v27), (4, .int 1), (5, .int v28)]) (lvS_cons (lvS_cons (lvS_cons (lvS_cons (lvS_cons (lvS_nil (show ([5, 3, 4, 0, 1] : List Nat).Nodup by decide)) rfl) rfl) rfl) rfl) rfl) ?_
              exact i0 x1 v27 1 v28 h (by omega) (by omega) (by omega) (by omega) K (by omega)
            · refine xi_cmt (pc' := 49) kc_60_42 rfl (xc_ne_t (X := v18.toInt) (Y := 2) rfl (by decide) (by omega)) ?_
              refine xi_iconst (pc' := 50) (v := 0) kc_60_49 rfl rfl ?_
              refine xi_istore (pc' := 52) (lv' := [(4, .int 0), (0, .ref 115), (1, .int x1), (3, .int x3), (5, .int x5)]) kc_60_50 rfl rfl (xm_lt ml_60 rfl) ?_
              refine xi_iload_n (pc' := 53) (x := x3) kc_60_52 rfl rfl ?_
              refine xi_iconst (pc' := 54) (v := 3) kc_60_53 rfl rfl ?_
              refine xcps2 (α := Int32) (x3 / 3) (fun v29 ev29 => ?_)
              have dv29 : v29.toInt = x3.toInt / 3 := by rw [← ev29]; exact xz_dive (X := x3.toInt) (Y := 3) rfl (by decide) (by omega) (by decide)
              have bv29 : 0 ≤ v29.toInt ∧ v29.toInt ≤ 2186 := by omega
              refine xi_idiv (pc' := 55) (v := v29) kc_60_54 rfl ev29 (by decide) ?_
              refine xi_istore_n (pc' := 56) (lv' := [(3, .int v29), (4, .int 0), (0, .ref 115), (1, .int x1), (5, .int x5)]) kc_60_55 rfl rfl (xm_lt ml_60 rfl) ?_
              refine xcps2 (α := Int32) (x5 + 1) (fun v30 ev30 => ?_)
              have zv30 : v30.toInt = (x5.toInt + 1) := by rw [← ev30]; exact (xz_add (X := x5.toInt) (Y := 1) rfl (by decide) (by omega) (by omega)).trans (by omega)
              refine xi_iinc (pc' := 59) (x := x5) (v := v30) (lv' := [(5, .int v30), (3, .int v29), (4, .int 0), (0, .ref 115), (1, .int x1)]) kc_60_56 rfl rfl ev30 rfl (xm_lt ml_60 rfl) ?_
              refine xi_goto (pc' := 12) kc_60_59 rfl ?_
              have zc0 : (0 : Int32).toInt = 0 := by decide
              refine xw_lv (b := [(0, .ref 115), (1, .int x1), (3, .int v29), (4, .int 0), (5, .int v30)]) (lvS_cons (lvS_cons (lvS_cons (lvS_cons (lvS_cons (lvS_nil (show ([5, 3, 4, 0, 1] : List Nat).Nodup by decide)) rfl) rfl) rfl) rfl) rfl) ?_
              exact i0 x1 v29 0 v30 h (by omega) (by omega) (by omega) (by omega) K (by omega)
          · refine xi_iff (pc' := 11) kc_54_8 rfl (xc_eq_f (X := v24.toInt) (Y := 0) rfl (by decide) (by omega)) ?_
            refine xi_iconst (pc' := 12) (v := 1) kc_54_11 rfl rfl ?_
            refine xi_goto (pc' := 16) kc_54_12 rfl ?_
            refine xi_ireturn kc_54_16 mr_54 rfl ?_
            show xw J ov (d + 2) 60 (42, [(0, .ref 115), (1, .int x1), (3, .int x3), (4, .int x4), (5, .int x5)], [.int 1, .int v18], h) _
            by_cases c31 : v18.toInt = 1
            · refine xi_cmf (pc' := 45) kc_60_42 rfl (xc_ne_f (X := v18.toInt) (Y := 1) rfl (by decide) (by omega)) ?_
              refine xi_iconst (pc' := 46) (v := 1) kc_60_45 rfl rfl ?_
              refine xi_goto (pc' := 50) kc_60_46 rfl ?_
              refine xi_istore (pc' := 52) (lv' := [(4, .int 1), (0, .ref 115), (1, .int x1), (3, .int x3), (5, .int x5)]) kc_60_50 rfl rfl (xm_lt ml_60 rfl) ?_
              refine xi_iload_n (pc' := 53) (x := x3) kc_60_52 rfl rfl ?_
              refine xi_iconst (pc' := 54) (v := 3) kc_60_53 rfl rfl ?_
              refine xcps2 (α := Int32) (x3 / 3) (fun v32 ev32 => ?_)
              have dv32 : v32.toInt = x3.toInt / 3 := by rw [← ev32]; exact xz_dive (X := x3.toInt) (Y := 3) rfl (by decide) (by omega) (by decide)
              have bv32 : 0 ≤ v32.toInt ∧ v32.toInt ≤ 2186 := by omega
              refine xi_idiv (pc' := 55) (v := v32) kc_60_54 rfl ev32 (by decide) ?_
              refine xi_istore_n (pc' := 56) (lv' := [(3, .int v32), (4, .int 1), (0, .ref 115), (1, .int x1), (5, .int x5)]) kc_60_55 rfl rfl (xm_lt ml_60 rfl) ?_
              refine xcps2 (α := Int32) (x5 + 1) (fun v33 ev33 => ?_)
              have zv33 : v33.toInt = (x5.toInt + 1) := by rw [← ev33]; exact (xz_add (X := x5.toInt) (Y := 1) rfl (by decide) (by omega) (by omega)).trans (by omega)
              refine xi_iinc (pc' := 59) (x := x5) (v := v33) (lv' := [(5, .int v33), (3, .int v32), (4, .int 1), (0, .ref 115), (1, .int x1)]) kc_60_56 rfl rfl ev33 rfl (xm_lt ml_60 rfl) ?_
              refine xi_goto (pc' := 12) kc_60_59 rfl ?_
              have zc1 : (1 : Int32).toInt = 1 := by decide
              refine xw_lv (b := [(0, .ref 115), (1, .int x1), (3, .int v32), (4, .int 1), (5, .int v33)]) (lvS_cons (lvS_cons (lvS_cons (lvS_cons (lvS_cons (lvS_nil (show ([5, 3, 4, 0, 1] : List Nat).Nodup by decide)) rfl) rfl) rfl) rfl) rfl) ?_
              exact i0 x1 v32 1 v33 h (by omega) (by omega) (by omega) (by omega) K (by omega)
            · refine xi_cmt (pc' := 49) kc_60_42 rfl (xc_ne_t (X := v18.toInt) (Y := 1) rfl (by decide) (by omega)) ?_
              refine xi_iconst (pc' := 50) (v := 0) kc_60_49 rfl rfl ?_
              refine xi_istore (pc' := 52) (lv' := [(4, .int 0), (0, .ref 115), (1, .int x1), (3, .int x3), (5, .int x5)]) kc_60_50 rfl rfl (xm_lt ml_60 rfl) ?_
              refine xi_iload_n (pc' := 53) (x := x3) kc_60_52 rfl rfl ?_
              refine xi_iconst (pc' := 54) (v := 3) kc_60_53 rfl rfl ?_
              refine xcps2 (α := Int32) (x3 / 3) (fun v34 ev34 => ?_)
              have dv34 : v34.toInt = x3.toInt / 3 := by rw [← ev34]; exact xz_dive (X := x3.toInt) (Y := 3) rfl (by decide) (by omega) (by decide)
              have bv34 : 0 ≤ v34.toInt ∧ v34.toInt ≤ 2186 := by omega
              refine xi_idiv (pc' := 55) (v := v34) kc_60_54 rfl ev34 (by decide) ?_
              refine xi_istore_n (pc' := 56) (lv' := [(3, .int v34), (4, .int 0), (0, .ref 115), (1, .int x1), (5, .int x5)]) kc_60_55 rfl rfl (xm_lt ml_60 rfl) ?_
              refine xcps2 (α := Int32) (x5 + 1) (fun v35 ev35 => ?_)
              have zv35 : v35.toInt = (x5.toInt + 1) := by rw [← ev35]; exact (xz_add (X := x5.toInt) (Y := 1) rfl (by decide) (by omega) (by omega)).trans (by omega)
              refine xi_iinc (pc' := 59) (x := x5) (v := v35) (lv' := [(5, .int v35), (3, .int v34), (4, .int 0), (0, .ref 115), (1, .int x1)]) kc_60_56 rfl rfl ev35 rfl (xm_lt ml_60 rfl) ?_
              refine xi_goto (pc' := 12) kc_60_59 rfl ?_
              have zc0 : (0 : Int32).toInt = 0 := by decide
              refine xw_lv (b := [(0, .ref 115), (1, .int x1), (3, .int v34), (4, .int 0), (5, .int v35)]) (lvS_cons (lvS_cons (lvS_cons (lvS_cons (lvS_cons (lvS_nil (show ([5, 3, 4, 0, 1] : List Nat).Nodup by decide)) rfl) rfl) rfl) rfl) rfl) ?_
              exact i0 x1 v34 0 v35 h (by omega) (by omega) (by omega) (by omega) K (by omega)
set_option maxHeartbeats 4000000 in
theorem mt_60_0 {J : xe_J} {ov : List (List Int32)} (hJ : ∀ d mj as h, mj ≠ xe_loff → J d mj as h = none) (hov1 : ov[1]? = some [10, 0, 0, 0, 0, 0]) (hov2 : ov[2]? = some [99, 30, 50, 50, 1, 99999]) {d : Nat} {Q : Option Value → xe_H → Prop} {h : xe_H} {x1 : Int32} {x2 : Int32} (T : xt h) (b1 : (0 ≤ x1.toInt ∧ x1.toInt ≤ 63)) (b2 : (0 ≤ x2.toInt ∧ x2.toInt ≤ 6560)) (kk : (∀ (r : Int32) (h' : xe_H), (0 ≤ r.toInt ∧ r.toInt ≤ 1) → xk [(0, 9), (115, 1), (83, 0), (29, 0), (31, 0), (33, 0), (35, 0), (37, 0), (39, 0), (41, 0), (43, 0), (45, 0), (47, 0), (49, 0), (51, 0), (125, 0), (66, 8), (115, 18), (71, 0), (132, 0)] h h' → Q (some (.int r)) h')) : xw J ov (d + 2) 60 (0, [(0, .ref 115), (1, .int x1), (2, .int x2)], [], h) Q := by
  have K : xk [(0, 9), (115, 1), (83, 0), (29, 0), (31, 0), (33, 0), (35, 0), (37, 0), (39, 0), (41, 0), (43, 0), (45, 0), (47, 0), (49, 0), (51, 0), (125, 0), (66, 8), (115, 18), (71, 0), (132, 0)] h h := xk_re T
  refine xi_iload_n (pc' := 1) (x := x2) kc_60_0 rfl rfl ?_
  refine xi_istore_n (pc' := 2) (lv' := [(3, .int x2), (0, .ref 115), (1, .int x1), (2, .int x2)]) kc_60_1 rfl rfl (xm_lt ml_60 rfl) ?_
  refine xi_aload_n (pc' := 3) (x := 115) kc_60_2 rfl rfl ?_
  refine xi_iload_n (pc' := 4) (x := x1) kc_60_3 rfl rfl ?_
  refine xp_115 K.1 (fun u1 u2 u3 u4 u5 u6 u7 u8 u9 u10 u11 u12 u13 bu1 bu2 bu3 bu4 bu5 bu6 bu7 bu8 bu9 bu10 bu11 bu12 bu13 A14 => ?_)
  refine xi_virtual (mj := 53) (as := [.int x1]) (st1 := []) (lv0 := [(0, .ref 115), (1, .int x1)]) kc_60_4 rfl rfl rfl rfl rfl A14 (Nat.le_of_ble_eq_true rfl) (hJ _ _ _ _ (by decide)) (xm_le ml_53 rfl) rfl ?_
  refine mt_53_0 hJ hov1 hov2 (d := d) (x1 := x1) K.1 (by first | omega | decide) (fun r15 hh16 br15 K17 => ?_)
  have K18 := xk_tr K K17 rfl
  refine xp_115 K18.1 (fun u19 u20 u21 u22 u23 u24 u25 u26 u27 u28 u29 u30 u31 bu19 bu20 bu21 bu22 bu23 bu24 bu25 bu26 bu27 bu28 bu29 bu30 bu31 A32 => ?_)
  have e33 : u2 = u20 := xk_eqi (q := 1) K17 rfl A14 A32 rfl rfl
  subst e33
  have e34 : u4 = u22 := xk_eqi (q := 18) K17 rfl A14 A32 rfl rfl
  subst e34
  show xw J ov (d + 2) 60 (7, [(3, .int x2), (0, .ref 115), (1, .int x1), (2, .int x2)], [.int r15], hh16) _
  refine xi_istore (pc' := 9) (lv' := [(4, .int r15), (3, .int x2), (0, .ref 115), (1, .int x1), (2, .int x2)]) kc_60_7 rfl rfl (xm_lt ml_60 rfl) ?_
  refine xi_iconst (pc' := 10) (v := 0) kc_60_9 rfl rfl ?_
  refine xi_istore (pc' := 12) (lv' := [(5, .int 0), (4, .int r15), (3, .int x2), (0, .ref 115), (1, .int x1), (2, .int x2)]) kc_60_10 rfl rfl (xm_lt ml_60 rfl) ?_
  have zc0 : (0 : Int32).toInt = 0 := by decide
  refine xw_lv (b := [(0, .ref 115), (1, .int x1), (3, .int x2), (4, .int r15), (5, .int 0)]) (lvS_cons (lvS_cons (lvS_cons (lvS_cons (lvS_cons (lvS_nil (show ([5, 4, 3, 0, 1, 2] : List Nat).Nodup by decide)) rfl) rfl) rfl) rfl) rfl) ?_
  exact (lp_60_0 hJ hov1 hov2 (d := d) (hb := hh16) (fun r9 h9 b9 K9 => kk r9 h9 b9 (xk_tr K18 K9 rfl)) 9) x1 x2 r15 0 hh16 (by omega) (by omega) (by omega) (by omega) (xk_re K18.1) (by omega)
set_option maxHeartbeats 4000000 in
theorem lp_59_0 {J : xe_J} {ov : List (List Int32)} (hJ : ∀ d mj as h, mj ≠ xe_loff → J d mj as h = none) (hov1 : ov[1]? = some [10, 0, 0, 0, 0, 0]) (hov2 : ov[2]? = some [99, 30, 50, 50, 1, 99999]) {d : Nat} {Q : Option Value → xe_H → Prop} {hb : xe_H} (kk : (∀ (r : Int32) (h' : xe_H), (0 ≤ r.toInt ∧ r.toInt ≤ 1) → xk [(0, 9), (115, 1), (83, 0), (29, 0), (31, 0), (33, 0), (35, 0), (37, 0), (39, 0), (41, 0), (43, 0), (45, 0), (47, 0), (49, 0), (51, 0), (125, 0), (66, 8), (115, 18), (71, 0), (132, 0)] hb h' → Q (some (.int r)) h')) : ∀ m : Nat, (∀ (x1 : Int32) (x2 : Int32) (x3 : Int32) (x4 : Int32) (x5 : Int32) (h : xe_H), (0 ≤ x1.toInt ∧ x1.toInt ≤ 6560) → (0 ≤ x2.toInt ∧ x2.toInt ≤ 7) → (0 ≤ x3.toInt ∧ x3.toInt ≤ 1) → (0 ≤ x4.toInt ∧ x4.toInt ≤ 1) → (0 ≤ x5.toInt ∧ x5.toInt ≤ 64) → xk [(0, 9), (115, 1), (83, 0), (29, 0), (31, 0), (33, 0), (35, 0), (37, 0), (39, 0), (41, 0), (43, 0), (45, 0), (47, 0), (49, 0), (51, 0), (125, 0), (66, 8), (115, 18), (71, 0), (132, 0)] hb h → (-1) * x5.toInt + 64 < (m : Int) → xw J ov (d + 3) 59 (8, [(0, .ref 115), (1, .int x1), (2, .int x2), (3, .int x3), (4, .int x4), (5, .int x5)], [], h) Q) := by
  intro m
  induction m with
  | zero =>
    intro x1 x2 x3 x4 x5 h b1 b2 b3 b4 b5 K hm; exfalso; omega
  | succ m ih =>
    have i0 := ih
    intro x1 x2 x3 x4 x5 h b1 b2 b3 b4 b5 K hm
    refine xi_iload (pc' := 10) (x := x5) kc_59_8 rfl rfl ?_
    refine xi_aload_n (pc' := 11) (x := 115) kc_59_10 rfl rfl ?_
    refine xp_115 K.1 (fun u1 u2 u3 u4 u5 u6 u7 u8 u9 u10 u11 u12 u13 bu1 bu2 bu3 bu4 bu5 bu6 bu7 bu8 bu9 bu10 bu11 bu12 bu13 A14 => ?_)
    refine xi_virtual (mj := 42) (as := []) (st1 := [.int x5]) (lv0 := [(0, .ref 115)]) kc_59_11 rfl rfl rfl rfl rfl A14 (Nat.le_of_ble_eq_true rfl) (hJ _ _ _ _ (by decide)) (xm_le ml_42 rfl) rfl ?_
    refine xi_iconst (pc' := 1) (v := 1) kc_42_0 rfl rfl ?_
    refine xi_aload_n (pc' := 2) (x := 115) kc_42_1 rfl rfl ?_
    refine xi_getfield (pc' := 5) (v := .int u5) kc_42_2 rfl rfl rfl A14 rfl ?_
    refine xi_bipush (pc' := 7) (v := 6) kc_42_5 rfl rfl ?_
    by_cases c15 : 6 ≤ u5.toInt
    · refine xi_cmt (pc' := 17) kc_42_7 rfl (xc_ge_t (X := u5.toInt) (Y := 6) rfl (by decide) (by omega)) ?_
      refine xi_bipush (pc' := 19) (v := 6) kc_42_17 rfl rfl ?_
      refine xi_ishl (pc' := 20) (v := 64) kc_42_19 rfl rfl ?_
      refine xi_ireturn kc_42_20 mr_42 rfl ?_
      show xw J ov (d + 3) 59 (14, [(0, .ref 115), (1, .int x1), (2, .int x2), (3, .int x3), (4, .int x4), (5, .int x5)], [.int 64, .int x5], h) _
      by_cases c16 : 64 ≤ x5.toInt
      · refine xi_cmt (pc' := 86) kc_59_14 rfl (xc_ge_t (X := x5.toInt) (Y := 64) rfl (by decide) (by omega)) ?_
        refine xi_iload_n (pc' := 87) (x := x3) kc_59_86 rfl rfl ?_
        by_cases c17 : x3.toInt = 0
        · refine xi_ift (pc' := 99) kc_59_87 rfl (xc_eq_t (X := x3.toInt) (Y := 0) rfl (by decide) (by omega)) ?_
          refine xi_iconst (pc' := 100) (v := 0) kc_59_99 rfl rfl ?_
          refine xi_ireturn kc_59_100 mr_59 rfl ?_
          have zc0 : (0 : Int32).toInt = 0 := by decide
          exact kk 0 h (by omega) K
        · refine xi_iff (pc' := 90) kc_59_87 rfl (xc_eq_f (X := x3.toInt) (Y := 0) rfl (by decide) (by omega)) ?_
          refine xi_iload (pc' := 92) (x := x4) kc_59_90 rfl rfl ?_
          by_cases c18 : x4.toInt = 0
          · refine xi_ift (pc' := 99) kc_59_92 rfl (xc_eq_t (X := x4.toInt) (Y := 0) rfl (by decide) (by omega)) ?_
            refine xi_iconst (pc' := 100) (v := 0) kc_59_99 rfl rfl ?_
            refine xi_ireturn kc_59_100 mr_59 rfl ?_
            have zc0 : (0 : Int32).toInt = 0 := by decide
            exact kk 0 h (by omega) K
          · refine xi_iff (pc' := 95) kc_59_92 rfl (xc_eq_f (X := x4.toInt) (Y := 0) rfl (by decide) (by omega)) ?_
            refine xi_iconst (pc' := 96) (v := 1) kc_59_95 rfl rfl ?_
            refine xi_goto (pc' := 100) kc_59_96 rfl ?_
            refine xi_ireturn kc_59_100 mr_59 rfl ?_
            have zc1 : (1 : Int32).toInt = 1 := by decide
            exact kk 1 h (by omega) K
      · refine xi_cmf (pc' := 17) kc_59_14 rfl (xc_ge_f (X := x5.toInt) (Y := 64) rfl (by decide) (by omega)) ?_
        refine xi_iload_n (pc' := 18) (x := x3) kc_59_17 rfl rfl ?_
        by_cases c19 : x3.toInt = 0
        · refine xi_ift (pc' := 26) kc_59_18 rfl (xc_eq_t (X := x3.toInt) (Y := 0) rfl (by decide) (by omega)) ?_
          refine xi_aload_n (pc' := 27) (x := 115) kc_59_26 rfl rfl ?_
          refine xi_iload (pc' := 29) (x := x5) kc_59_27 rfl rfl ?_
          refine xi_iload_n (pc' := 30) (x := x1) kc_59_29 rfl rfl ?_
          refine xi_virtual (mj := 60) (as := [.int x5, .int x1]) (st1 := []) (lv0 := [(0, .ref 115), (1, .int x5), (2, .int x1)]) kc_59_30 rfl rfl rfl rfl rfl A14 (Nat.le_of_ble_eq_true rfl) (hJ _ _ _ _ (by decide)) (xm_le ml_60 rfl) rfl ?_
          refine mt_60_0 hJ hov1 hov2 (d := d) (x1 := x5) (x2 := x1) K.1 (by first | omega | decide) (by first | omega | decide) (fun r20 hh21 br20 K22 => ?_)
          have K23 := xk_tr K K22 rfl
          refine xp_115 K23.1 (fun u24 u25 u26 u27 u28 u29 u30 u31 u32 u33 u34 u35 u36 bu24 bu25 bu26 bu27 bu28 bu29 bu30 bu31 bu32 bu33 bu34 bu35 bu36 A37 => ?_)
          have e38 : u2 = u25 := xk_eqi (q := 1) K22 rfl A14 A37 rfl rfl
          subst e38
          have e39 : u4 = u27 := xk_eqi (q := 18) K22 rfl A14 A37 rfl rfl
          subst e39
          show xw J ov (d + 3) 59 (33, [(0, .ref 115), (1, .int x1), (2, .int x2), (3, .int x3), (4, .int x4), (5, .int x5)], [.int r20], hh21) _
          by_cases c40 : r20.toInt = 0
          · refine xi_ift (pc' := 80) kc_59_33 rfl (xc_eq_t (X := r20.toInt) (Y := 0) rfl (by decide) (by omega)) ?_
            refine xcps2 (α := Int32) (x5 + 1) (fun v41 ev41 => ?_)
            have zv41 : v41.toInt = (x5.toInt + 1) := by rw [← ev41]; exact (xz_add (X := x5.toInt) (Y := 1) rfl (by decide) (by omega) (by omega)).trans (by omega)
            refine xi_iinc (pc' := 83) (x := x5) (v := v41) (lv' := [(5, .int v41), (0, .ref 115), (1, .int x1), (2, .int x2), (3, .int x3), (4, .int x4)]) kc_59_80 rfl rfl ev41 rfl (xm_lt ml_59 rfl) ?_
            refine xi_goto (pc' := 8) kc_59_83 rfl ?_
            refine xw_lv (b := [(0, .ref 115), (1, .int x1), (2, .int x2), (3, .int x3), (4, .int x4), (5, .int v41)]) (lvS_cons (lvS_cons (lvS_cons (lvS_cons (lvS_cons (lvS_cons (lvS_nil (show ([5, 0, 1, 2, 3, 4] : List Nat).Nodup by decide)) rfl) rfl) rfl) rfl) rfl) rfl) ?_
            exact i0 x1 x2 x3 x4 v41 hh21 (by omega) (by omega) (by omega) (by omega) (by omega) K23 (by omega)
          · refine xi_iff (pc' := 36) kc_59_33 rfl (xc_eq_f (X := r20.toInt) (Y := 0) rfl (by decide) (by omega)) ?_
            refine xi_iload_n (pc' := 37) (x := x3) kc_59_36 rfl rfl ?_
            refine xi_iff (pc' := 40) kc_59_37 rfl (xc_ne_f (X := x3.toInt) (Y := 0) rfl (by decide) (by omega)) ?_
            refine xi_aload_n (pc' := 41) (x := 115) kc_59_40 rfl rfl ?_
            refine xi_iload_n (pc' := 42) (x := x2) kc_59_41 rfl rfl ?_
            refine xi_iload (pc' := 44) (x := x5) kc_59_42 rfl rfl ?_
            refine xi_virtual (mj := 54) (as := [.int x2, .int x5]) (st1 := []) (lv0 := [(0, .ref 115), (1, .int x2), (2, .int x5)]) kc_59_44 rfl rfl rfl rfl rfl A37 (Nat.le_of_ble_eq_true rfl) (hJ _ _ _ _ (by decide)) (xm_le ml_54 rfl) rfl ?_
            refine xi_aload_n (pc' := 1) (x := 115) kc_54_0 rfl rfl ?_
            refine xi_getfield (pc' := 4) (v := .ref 152) kc_54_1 rfl rfl rfl A37 rfl ?_
            refine xi_iload_n (pc' := 5) (x := x2) kc_54_4 rfl rfl ?_
            refine xcps4 (xk_arr K23.1 xD_152) (fun y42 A42 hy42 ry42 => ?_)
            refine xcps4 (xj_get hy42 ry42 (i := x2) (by omega) (by omega)) (fun v43 ev43 bv43 dv43 => ?_)
            refine xi_iaload (pc' := 6) (v := v43) kc_54_5 rfl A42 (by decide) rfl (xi_in (by omega) (by rw [hy42]; omega)) ev43 ?_
            refine xi_iload_n (pc' := 7) (x := x5) kc_54_6 rfl rfl ?_
            refine xcps2 (α := Int32) ((v43 : Int32) &&& x5) (fun v44 ev44 => ?_)
            have rv44 := xc_rng v44
            refine xi_iand (pc' := 8) (v := v44) kc_54_7 rfl ev44 ?_
            by_cases c45 : v44.toInt = 0
            · refine xi_ift (pc' := 15) kc_54_8 rfl (xc_eq_t (X := v44.toInt) (Y := 0) rfl (by decide) (by omega)) ?_
              refine xi_iconst (pc' := 16) (v := 2) kc_54_15 rfl rfl ?_
              refine xi_ireturn kc_54_16 mr_54 rfl ?_
              show xw J ov (d + 3) 59 (47, [(0, .ref 115), (1, .int x1), (2, .int x2), (3, .int x3), (4, .int x4), (5, .int x5)], [.int 2], hh21) _
              refine xi_iconst (pc' := 48) (v := 1) kc_59_47 rfl rfl ?_
              refine xi_cmt (pc' := 55) kc_59_48 rfl rfl ?_
              refine xi_iconst (pc' := 56) (v := 0) kc_59_55 rfl rfl ?_
              refine xi_istore_n (pc' := 57) (lv' := [(3, .int 0), (0, .ref 115), (1, .int x1), (2, .int x2), (4, .int x4), (5, .int x5)]) kc_59_56 rfl rfl (xm_lt ml_59 rfl) ?_
              refine xi_iload (pc' := 59) (x := x4) kc_59_57 rfl rfl ?_
              by_cases c46 : x4.toInt = 0
              · refine xi_iff (pc' := 62) kc_59_59 rfl (xc_ne_f (X := x4.toInt) (Y := 0) rfl (by decide) (by omega)) ?_
                refine xi_aload_n (pc' := 63) (x := 115) kc_59_62 rfl rfl ?_
                refine xi_iload_n (pc' := 64) (x := x2) kc_59_63 rfl rfl ?_
                refine xi_iload (pc' := 66) (x := x5) kc_59_64 rfl rfl ?_
                refine xi_virtual (mj := 54) (as := [.int x2, .int x5]) (st1 := []) (lv0 := [(0, .ref 115), (1, .int x2), (2, .int x5)]) kc_59_66 rfl rfl rfl rfl rfl A37 (Nat.le_of_ble_eq_true rfl) (hJ _ _ _ _ (by decide)) (xm_le ml_54 rfl) rfl ?_
                refine xi_aload_n (pc' := 1) (x := 115) kc_54_0 rfl rfl ?_
                refine xi_getfield (pc' := 4) (v := .ref 152) kc_54_1 rfl rfl rfl A37 rfl ?_
                refine xi_iload_n (pc' := 5) (x := x2) kc_54_4 rfl rfl ?_
                refine xi_iaload (pc' := 6) (v := v43) kc_54_5 rfl A42 (by decide) rfl (xi_in (by omega) (by rw [hy42]; omega)) ev43 ?_
                refine xi_iload_n (pc' := 7) (x := x5) kc_54_6 rfl rfl ?_
                refine xi_iand (pc' := 8) (v := v44) kc_54_7 rfl ev44 ?_
                refine xi_ift (pc' := 15) kc_54_8 rfl (xc_eq_t (X := v44.toInt) (Y := 0) rfl (by decide) (by omega)) ?_
                refine xi_iconst (pc' := 16) (v := 2) kc_54_15 rfl rfl ?_
                refine xi_ireturn kc_54_16 mr_54 rfl ?_
                show xw J ov (d + 3) 59 (69, [(3, .int 0), (0, .ref 115), (1, .int x1), (2, .int x2), (4, .int x4), (5, .int x5)], [.int 2], hh21) _
                refine xi_iconst (pc' := 70) (v := 2) kc_59_69 rfl rfl ?_
                refine xi_cmf (pc' := 73) kc_59_70 rfl rfl ?_
                refine xi_iconst (pc' := 74) (v := 1) kc_59_73 rfl rfl ?_
                refine xi_goto (pc' := 78) kc_59_74 rfl ?_
                refine xi_istore (pc' := 80) (lv' := [(4, .int 1), (3, .int 0), (0, .ref 115), (1, .int x1), (2, .int x2), (5, .int x5)]) kc_59_78 rfl rfl (xm_lt ml_59 rfl) ?_
                refine xcps2 (α := Int32) (x5 + 1) (fun v47 ev47 => ?_)
                have zv47 : v47.toInt = (x5.toInt + 1) := by rw [← ev47]; exact (xz_add (X := x5.toInt) (Y := 1) rfl (by decide) (by omega) (by omega)).trans (by omega)
                refine xi_iinc (pc' := 83) (x := x5) (v := v47) (lv' := [(5, .int v47), (4, .int 1), (3, .int 0), (0, .ref 115), (1, .int x1), (2, .int x2)]) kc_59_80 rfl rfl ev47 rfl (xm_lt ml_59 rfl) ?_
                refine xi_goto (pc' := 8) kc_59_83 rfl ?_
                have zc0 : (0 : Int32).toInt = 0 := by decide
                have zc1 : (1 : Int32).toInt = 1 := by decide
                refine xw_lv (b := [(0, .ref 115), (1, .int x1), (2, .int x2), (3, .int 0), (4, .int 1), (5, .int v47)]) (lvS_cons (lvS_cons (lvS_cons (lvS_cons (lvS_cons (lvS_cons (lvS_nil (show ([5, 4, 3, 0, 1, 2] : List Nat).Nodup by decide)) rfl) rfl) rfl) rfl) rfl) rfl) ?_
                exact i0 x1 x2 0 1 v47 hh21 (by omega) (by omega) (by omega) (by omega) (by omega) K23 (by omega)
              · refine xi_ift (pc' := 73) kc_59_59 rfl (xc_ne_t (X := x4.toInt) (Y := 0) rfl (by decide) (by omega)) ?_
                refine xi_iconst (pc' := 74) (v := 1) kc_59_73 rfl rfl ?_
                refine xi_goto (pc' := 78) kc_59_74 rfl ?_
                refine xi_istore (pc' := 80) (lv' := [(4, .int 1), (3, .int 0), (0, .ref 115), (1, .int x1), (2, .int x2), (5, .int x5)]) kc_59_78 rfl rfl (xm_lt ml_59 rfl) ?_
                refine xcps2 (α := Int32) (x5 + 1) (fun v48 ev48 => ?_)
                have zv48 : v48.toInt = (x5.toInt + 1) := by rw [← ev48]; exact (xz_add (X := x5.toInt) (Y := 1) rfl (by decide) (by omega) (by omega)).trans (by omega)
                refine xi_iinc (pc' := 83) (x := x5) (v := v48) (lv' := [(5, .int v48), (4, .int 1), (3, .int 0), (0, .ref 115), (1, .int x1), (2, .int x2)]) kc_59_80 rfl rfl ev48 rfl (xm_lt ml_59 rfl) ?_
                refine xi_goto (pc' := 8) kc_59_83 rfl ?_
                have zc0 : (0 : Int32).toInt = 0 := by decide
                have zc1 : (1 : Int32).toInt = 1 := by decide
                refine xw_lv (b := [(0, .ref 115), (1, .int x1), (2, .int x2), (3, .int 0), (4, .int 1), (5, .int v48)]) (lvS_cons (lvS_cons (lvS_cons (lvS_cons (lvS_cons (lvS_cons (lvS_nil (show ([5, 4, 3, 0, 1, 2] : List Nat).Nodup by decide)) rfl) rfl) rfl) rfl) rfl) rfl) ?_
                exact i0 x1 x2 0 1 v48 hh21 (by omega) (by omega) (by omega) (by omega) (by omega) K23 (by omega)
            · refine xi_iff (pc' := 11) kc_54_8 rfl (xc_eq_f (X := v44.toInt) (Y := 0) rfl (by decide) (by omega)) ?_
              refine xi_iconst (pc' := 12) (v := 1) kc_54_11 rfl rfl ?_
              refine xi_goto (pc' := 16) kc_54_12 rfl ?_
              refine xi_ireturn kc_54_16 mr_54 rfl ?_
              show xw J ov (d + 3) 59 (47, [(0, .ref 115), (1, .int x1), (2, .int x2), (3, .int x3), (4, .int x4), (5, .int x5)], [.int 1], hh21) _
              refine xi_iconst (pc' := 48) (v := 1) kc_59_47 rfl rfl ?_
              refine xi_cmf (pc' := 51) kc_59_48 rfl rfl ?_
              refine xi_iconst (pc' := 52) (v := 1) kc_59_51 rfl rfl ?_
              refine xi_goto (pc' := 56) kc_59_52 rfl ?_
              refine xi_istore_n (pc' := 57) (lv' := [(3, .int 1), (0, .ref 115), (1, .int x1), (2, .int x2), (4, .int x4), (5, .int x5)]) kc_59_56 rfl rfl (xm_lt ml_59 rfl) ?_
              refine xi_iload (pc' := 59) (x := x4) kc_59_57 rfl rfl ?_
              by_cases c49 : x4.toInt = 0
              · refine xi_iff (pc' := 62) kc_59_59 rfl (xc_ne_f (X := x4.toInt) (Y := 0) rfl (by decide) (by omega)) ?_
                refine xi_aload_n (pc' := 63) (x := 115) kc_59_62 rfl rfl ?_
                refine xi_iload_n (pc' := 64) (x := x2) kc_59_63 rfl rfl ?_
                refine xi_iload (pc' := 66) (x := x5) kc_59_64 rfl rfl ?_
                refine xi_virtual (mj := 54) (as := [.int x2, .int x5]) (st1 := []) (lv0 := [(0, .ref 115), (1, .int x2), (2, .int x5)]) kc_59_66 rfl rfl rfl rfl rfl A37 (Nat.le_of_ble_eq_true rfl) (hJ _ _ _ _ (by decide)) (xm_le ml_54 rfl) rfl ?_
                refine xi_aload_n (pc' := 1) (x := 115) kc_54_0 rfl rfl ?_
                refine xi_getfield (pc' := 4) (v := .ref 152) kc_54_1 rfl rfl rfl A37 rfl ?_
                refine xi_iload_n (pc' := 5) (x := x2) kc_54_4 rfl rfl ?_
                refine xi_iaload (pc' := 6) (v := v43) kc_54_5 rfl A42 (by decide) rfl (xi_in (by omega) (by rw [hy42]; omega)) ev43 ?_
                refine xi_iload_n (pc' := 7) (x := x5) kc_54_6 rfl rfl ?_
                refine xi_iand (pc' := 8) (v := v44) kc_54_7 rfl ev44 ?_
                refine xi_iff (pc' := 11) kc_54_8 rfl (xc_eq_f (X := v44.toInt) (Y := 0) rfl (by decide) (by omega)) ?_
                refine xi_iconst (pc' := 12) (v := 1) kc_54_11 rfl rfl ?_
                refine xi_goto (pc' := 16) kc_54_12 rfl ?_
                refine xi_ireturn kc_54_16 mr_54 rfl ?_
                show xw J ov (d + 3) 59 (69, [(3, .int 1), (0, .ref 115), (1, .int x1), (2, .int x2), (4, .int x4), (5, .int x5)], [.int 1], hh21) _
                refine xi_iconst (pc' := 70) (v := 2) kc_59_69 rfl rfl ?_
                refine xi_cmt (pc' := 77) kc_59_70 rfl rfl ?_
                refine xi_iconst (pc' := 78) (v := 0) kc_59_77 rfl rfl ?_
                refine xi_istore (pc' := 80) (lv' := [(4, .int 0), (3, .int 1), (0, .ref 115), (1, .int x1), (2, .int x2), (5, .int x5)]) kc_59_78 rfl rfl (xm_lt ml_59 rfl) ?_
                refine xcps2 (α := Int32) (x5 + 1) (fun v50 ev50 => ?_)
                have zv50 : v50.toInt = (x5.toInt + 1) := by rw [← ev50]; exact (xz_add (X := x5.toInt) (Y := 1) rfl (by decide) (by omega) (by omega)).trans (by omega)
                refine xi_iinc (pc' := 83) (x := x5) (v := v50) (lv' := [(5, .int v50), (4, .int 0), (3, .int 1), (0, .ref 115), (1, .int x1), (2, .int x2)]) kc_59_80 rfl rfl ev50 rfl (xm_lt ml_59 rfl) ?_
                refine xi_goto (pc' := 8) kc_59_83 rfl ?_
                have zc0 : (0 : Int32).toInt = 0 := by decide
                have zc1 : (1 : Int32).toInt = 1 := by decide
                refine xw_lv (b := [(0, .ref 115), (1, .int x1), (2, .int x2), (3, .int 1), (4, .int 0), (5, .int v50)]) (lvS_cons (lvS_cons (lvS_cons (lvS_cons (lvS_cons (lvS_cons (lvS_nil (show ([5, 4, 3, 0, 1, 2] : List Nat).Nodup by decide)) rfl) rfl) rfl) rfl) rfl) rfl) ?_
                exact i0 x1 x2 1 0 v50 hh21 (by omega) (by omega) (by omega) (by omega) (by omega) K23 (by omega)
              · refine xi_ift (pc' := 73) kc_59_59 rfl (xc_ne_t (X := x4.toInt) (Y := 0) rfl (by decide) (by omega)) ?_
                refine xi_iconst (pc' := 74) (v := 1) kc_59_73 rfl rfl ?_
                refine xi_goto (pc' := 78) kc_59_74 rfl ?_
                refine xi_istore (pc' := 80) (lv' := [(4, .int 1), (3, .int 1), (0, .ref 115), (1, .int x1), (2, .int x2), (5, .int x5)]) kc_59_78 rfl rfl (xm_lt ml_59 rfl) ?_
                refine xcps2 (α := Int32) (x5 + 1) (fun v51 ev51 => ?_)
                have zv51 : v51.toInt = (x5.toInt + 1) := by rw [← ev51]; exact (xz_add (X := x5.toInt) (Y := 1) rfl (by decide) (by omega) (by omega)).trans (by omega)
                refine xi_iinc (pc' := 83) (x := x5) (v := v51) (lv' := [(5, .int v51), (4, .int 1), (3, .int 1), (0, .ref 115), (1, .int x1), (2, .int x2)]) kc_59_80 rfl rfl ev51 rfl (xm_lt ml_59 rfl) ?_
                refine xi_goto (pc' := 8) kc_59_83 rfl ?_
                have zc1 : (1 : Int32).toInt = 1 := by decide
                refine xw_lv (b := [(0, .ref 115), (1, .int x1), (2, .int x2), (3, .int 1), (4, .int 1), (5, .int v51)]) (lvS_cons (lvS_cons (lvS_cons (lvS_cons (lvS_cons (lvS_cons (lvS_nil (show ([5, 4, 3, 0, 1, 2] : List Nat).Nodup by decide)) rfl) rfl) rfl) rfl) rfl) rfl) ?_
                exact i0 x1 x2 1 1 v51 hh21 (by omega) (by omega) (by omega) (by omega) (by omega) K23 (by omega)
        · refine xi_iff (pc' := 21) kc_59_18 rfl (xc_eq_f (X := x3.toInt) (Y := 0) rfl (by decide) (by omega)) ?_
          refine xi_iload (pc' := 23) (x := x4) kc_59_21 rfl rfl ?_
          by_cases c52 : x4.toInt = 0
          · refine xi_iff (pc' := 26) kc_59_23 rfl (xc_ne_f (X := x4.toInt) (Y := 0) rfl (by decide) (by omega)) ?_
            refine xi_aload_n (pc' := 27) (x := 115) kc_59_26 rfl rfl ?_
            refine xi_iload (pc' := 29) (x := x5) kc_59_27 rfl rfl ?_
            refine xi_iload_n (pc' := 30) (x := x1) kc_59_29 rfl rfl ?_
            refine xi_virtual (mj := 60) (as := [.int x5, .int x1]) (st1 := []) (lv0 := [(0, .ref 115), (1, .int x5), (2, .int x1)]) kc_59_30 rfl rfl rfl rfl rfl A14 (Nat.le_of_ble_eq_true rfl) (hJ _ _ _ _ (by decide)) (xm_le ml_60 rfl) rfl ?_
            refine mt_60_0 hJ hov1 hov2 (d := d) (x1 := x5) (x2 := x1) K.1 (by first | omega | decide) (by first | omega | decide) (fun r53 hh54 br53 K55 => ?_)
            have K56 := xk_tr K K55 rfl
            refine xp_115 K56.1 (fun u57 u58 u59 u60 u61 u62 u63 u64 u65 u66 u67 u68 u69 bu57 bu58 bu59 bu60 bu61 bu62 bu63 bu64 bu65 bu66 bu67 bu68 bu69 A70 => ?_)
            have e71 : u2 = u58 := xk_eqi (q := 1) K55 rfl A14 A70 rfl rfl
            subst e71
            have e72 : u4 = u60 := xk_eqi (q := 18) K55 rfl A14 A70 rfl rfl
            subst e72
            show xw J ov (d + 3) 59 (33, [(0, .ref 115), (1, .int x1), (2, .int x2), (3, .int x3), (4, .int x4), (5, .int x5)], [.int r53], hh54) _
            by_cases c73 : r53.toInt = 0
            · refine xi_ift (pc' := 80) kc_59_33 rfl (xc_eq_t (X := r53.toInt) (Y := 0) rfl (by decide) (by omega)) ?_
              refine xcps2 (α := Int32) (x5 + 1) (fun v74 ev74 => ?_)
              have zv74 : v74.toInt = (x5.toInt + 1) := by rw [← ev74]; exact (xz_add (X := x5.toInt) (Y := 1) rfl (by decide) (by omega) (by omega)).trans (by omega)
              refine xi_iinc (pc' := 83) (x := x5) (v := v74) (lv' := [(5, .int v74), (0, .ref 115), (1, .int x1), (2, .int x2), (3, .int x3), (4, .int x4)]) kc_59_80 rfl rfl ev74 rfl (xm_lt ml_59 rfl) ?_
              refine xi_goto (pc' := 8) kc_59_83 rfl ?_
              refine xw_lv (b := [(0, .ref 115), (1, .int x1), (2, .int x2), (3, .int x3), (4, .int x4), (5, .int v74)]) (lvS_cons (lvS_cons (lvS_cons (lvS_cons (lvS_cons (lvS_cons (lvS_nil (show ([5, 0, 1, 2, 3, 4] : List Nat).Nodup by decide)) rfl) rfl) rfl) rfl) rfl) rfl) ?_
              exact i0 x1 x2 x3 x4 v74 hh54 (by omega) (by omega) (by omega) (by omega) (by omega) K56 (by omega)
            · refine xi_iff (pc' := 36) kc_59_33 rfl (xc_eq_f (X := r53.toInt) (Y := 0) rfl (by decide) (by omega)) ?_
              refine xi_iload_n (pc' := 37) (x := x3) kc_59_36 rfl rfl ?_
              refine xi_ift (pc' := 51) kc_59_37 rfl (xc_ne_t (X := x3.toInt) (Y := 0) rfl (by decide) (by omega)) ?_
              refine xi_iconst (pc' := 52) (v := 1) kc_59_51 rfl rfl ?_
              refine xi_goto (pc' := 56) kc_59_52 rfl ?_
              refine xi_istore_n (pc' := 57) (lv' := [(3, .int 1), (0, .ref 115), (1, .int x1), (2, .int x2), (4, .int x4), (5, .int x5)]) kc_59_56 rfl rfl (xm_lt ml_59 rfl) ?_
              refine xi_iload (pc' := 59) (x := x4) kc_59_57 rfl rfl ?_
              refine xi_iff (pc' := 62) kc_59_59 rfl (xc_ne_f (X := x4.toInt) (Y := 0) rfl (by decide) (by omega)) ?_
              refine xi_aload_n (pc' := 63) (x := 115) kc_59_62 rfl rfl ?_
              refine xi_iload_n (pc' := 64) (x := x2) kc_59_63 rfl rfl ?_
              refine xi_iload (pc' := 66) (x := x5) kc_59_64 rfl rfl ?_
              refine xi_virtual (mj := 54) (as := [.int x2, .int x5]) (st1 := []) (lv0 := [(0, .ref 115), (1, .int x2), (2, .int x5)]) kc_59_66 rfl rfl rfl rfl rfl A70 (Nat.le_of_ble_eq_true rfl) (hJ _ _ _ _ (by decide)) (xm_le ml_54 rfl) rfl ?_
              refine xi_aload_n (pc' := 1) (x := 115) kc_54_0 rfl rfl ?_
              refine xi_getfield (pc' := 4) (v := .ref 152) kc_54_1 rfl rfl rfl A70 rfl ?_
              refine xi_iload_n (pc' := 5) (x := x2) kc_54_4 rfl rfl ?_
              refine xcps4 (xk_arr K56.1 xD_152) (fun y75 A75 hy75 ry75 => ?_)
              refine xcps4 (xj_get hy75 ry75 (i := x2) (by omega) (by omega)) (fun v76 ev76 bv76 dv76 => ?_)
              refine xi_iaload (pc' := 6) (v := v76) kc_54_5 rfl A75 (by decide) rfl (xi_in (by omega) (by rw [hy75]; omega)) ev76 ?_
              refine xi_iload_n (pc' := 7) (x := x5) kc_54_6 rfl rfl ?_
              refine xcps2 (α := Int32) ((v76 : Int32) &&& x5) (fun v77 ev77 => ?_)
              have rv77 := xc_rng v77
              refine xi_iand (pc' := 8) (v := v77) kc_54_7 rfl ev77 ?_
              by_cases c78 : v77.toInt = 0
              · refine xi_ift (pc' := 15) kc_54_8 rfl (xc_eq_t (X := v77.toInt) (Y := 0) rfl (by decide) (by omega)) ?_
                refine xi_iconst (pc' := 16) (v := 2) kc_54_15 rfl rfl ?_
                refine xi_ireturn kc_54_16 mr_54 rfl ?_
                show xw J ov (d + 3) 59 (69, [(3, .int 1), (0, .ref 115), (1, .int x1), (2, .int x2), (4, .int x4), (5, .int x5)], [.int 2], hh54) _
                refine xi_iconst (pc' := 70) (v := 2) kc_59_69 rfl rfl ?_
                refine xi_cmf (pc' := 73) kc_59_70 rfl rfl ?_
                refine xi_iconst (pc' := 74) (v := 1) kc_59_73 rfl rfl ?_
                refine xi_goto (pc' := 78) kc_59_74 rfl ?_
                refine xi_istore (pc' := 80) (lv' := [(4, .int 1), (3, .int 1), (0, .ref 115), (1, .int x1), (2, .int x2), (5, .int x5)]) kc_59_78 rfl rfl (xm_lt ml_59 rfl) ?_
                refine xcps2 (α := Int32) (x5 + 1) (fun v79 ev79 => ?_)
                have zv79 : v79.toInt = (x5.toInt + 1) := by rw [← ev79]; exact (xz_add (X := x5.toInt) (Y := 1) rfl (by decide) (by omega) (by omega)).trans (by omega)
                refine xi_iinc (pc' := 83) (x := x5) (v := v79) (lv' := [(5, .int v79), (4, .int 1), (3, .int 1), (0, .ref 115), (1, .int x1), (2, .int x2)]) kc_59_80 rfl rfl ev79 rfl (xm_lt ml_59 rfl) ?_
                refine xi_goto (pc' := 8) kc_59_83 rfl ?_
                have zc1 : (1 : Int32).toInt = 1 := by decide
                refine xw_lv (b := [(0, .ref 115), (1, .int x1), (2, .int x2), (3, .int 1), (4, .int 1), (5, .int v79)]) (lvS_cons (lvS_cons (lvS_cons (lvS_cons (lvS_cons (lvS_cons (lvS_nil (show ([5, 4, 3, 0, 1, 2] : List Nat).Nodup by decide)) rfl) rfl) rfl) rfl) rfl) rfl) ?_
                exact i0 x1 x2 1 1 v79 hh54 (by omega) (by omega) (by omega) (by omega) (by omega) K56 (by omega)
              · refine xi_iff (pc' := 11) kc_54_8 rfl (xc_eq_f (X := v77.toInt) (Y := 0) rfl (by decide) (by omega)) ?_
                refine xi_iconst (pc' := 12) (v := 1) kc_54_11 rfl rfl ?_
                refine xi_goto (pc' := 16) kc_54_12 rfl ?_
                refine xi_ireturn kc_54_16 mr_54 rfl ?_
                show xw J ov (d + 3) 59 (69, [(3, .int 1), (0, .ref 115), (1, .int x1), (2, .int x2), (4, .int x4), (5, .int x5)], [.int 1], hh54) _
                refine xi_iconst (pc' := 70) (v := 2) kc_59_69 rfl rfl ?_
                refine xi_cmt (pc' := 77) kc_59_70 rfl rfl ?_
                refine xi_iconst (pc' := 78) (v := 0) kc_59_77 rfl rfl ?_
                refine xi_istore (pc' := 80) (lv' := [(4, .int 0), (3, .int 1), (0, .ref 115), (1, .int x1), (2, .int x2), (5, .int x5)]) kc_59_78 rfl rfl (xm_lt ml_59 rfl) ?_
                refine xcps2 (α := Int32) (x5 + 1) (fun v80 ev80 => ?_)
                have zv80 : v80.toInt = (x5.toInt + 1) := by rw [← ev80]; exact (xz_add (X := x5.toInt) (Y := 1) rfl (by decide) (by omega) (by omega)).trans (by omega)
                refine xi_iinc (pc' := 83) (x := x5) (v := v80) (lv' := [(5, .int v80), (4, .int 0), (3, .int 1), (0, .ref 115), (1, .int x1), (2, .int x2)]) kc_59_80 rfl rfl ev80 rfl (xm_lt ml_59 rfl) ?_
                refine xi_goto (pc' := 8) kc_59_83 rfl ?_
                have zc0 : (0 : Int32).toInt = 0 := by decide
                have zc1 : (1 : Int32).toInt = 1 := by decide
                refine xw_lv (b := [(0, .ref 115), (1, .int x1), (2, .int x2), (3, .int 1), (4, .int 0), (5, .int v80)]) (lvS_cons (lvS_cons (lvS_cons (lvS_cons (lvS_cons (lvS_cons (lvS_nil (show ([5, 4, 3, 0, 1, 2] : List Nat).Nodup by decide)) rfl) rfl) rfl) rfl) rfl) rfl) ?_
                exact i0 x1 x2 1 0 v80 hh54 (by omega) (by omega) (by omega) (by omega) (by omega) K56 (by omega)
          · refine xi_ift (pc' := 86) kc_59_23 rfl (xc_ne_t (X := x4.toInt) (Y := 0) rfl (by decide) (by omega)) ?_
            refine xi_iload_n (pc' := 87) (x := x3) kc_59_86 rfl rfl ?_
            refine xi_iff (pc' := 90) kc_59_87 rfl (xc_eq_f (X := x3.toInt) (Y := 0) rfl (by decide) (by omega)) ?_
            refine xi_iload (pc' := 92) (x := x4) kc_59_90 rfl rfl ?_
            refine xi_iff (pc' := 95) kc_59_92 rfl (xc_eq_f (X := x4.toInt) (Y := 0) rfl (by decide) (by omega)) ?_
            refine xi_iconst (pc' := 96) (v := 1) kc_59_95 rfl rfl ?_
            refine xi_goto (pc' := 100) kc_59_96 rfl ?_
            refine xi_ireturn kc_59_100 mr_59 rfl ?_
            have zc1 : (1 : Int32).toInt = 1 := by decide
            exact kk 1 h (by omega) K
    · refine xi_cmf (pc' := 10) kc_42_7 rfl (xc_ge_f (X := u5.toInt) (Y := 6) rfl (by decide) (by omega)) ?_
      refine xi_aload_n (pc' := 11) (x := 115) kc_42_10 rfl rfl ?_
      refine xi_getfield (pc' := 14) (v := .int u5) kc_42_11 rfl rfl rfl A14 rfl ?_
      refine xi_goto (pc' := 19) kc_42_14 rfl ?_
      refine xcps2 (α := Int32) ((1 : Int32) <<< (u5 &&& 31)) (fun v81 ev81 => ?_)
      have rv81 := xc_rng v81
      have bv81 : 1 ≤ v81.toInt ∧ v81.toInt ≤ 64 := by rw [← ev81]; exact xj_shl6 (by omega) (by omega)
      refine xi_ishl (pc' := 20) (v := v81) kc_42_19 rfl ev81 ?_
      refine xi_ireturn kc_42_20 mr_42 rfl ?_
      show xw J ov (d + 3) 59 (14, [(0, .ref 115), (1, .int x1), (2, .int x2), (3, .int x3), (4, .int x4), (5, .int x5)], [.int v81, .int x5], h) _
      by_cases c82 : v81.toInt ≤ x5.toInt
      · refine xi_cmt (pc' := 86) kc_59_14 rfl (xc_ge_t (X := x5.toInt) (Y := v81.toInt) rfl rfl (by omega)) ?_
        refine xi_iload_n (pc' := 87) (x := x3) kc_59_86 rfl rfl ?_
        by_cases c83 : x3.toInt = 0
        · refine xi_ift (pc' := 99) kc_59_87 rfl (xc_eq_t (X := x3.toInt) (Y := 0) rfl (by decide) (by omega)) ?_
          refine xi_iconst (pc' := 100) (v := 0) kc_59_99 rfl rfl ?_
          refine xi_ireturn kc_59_100 mr_59 rfl ?_
          have zc0 : (0 : Int32).toInt = 0 := by decide
          exact kk 0 h (by omega) K
        · refine xi_iff (pc' := 90) kc_59_87 rfl (xc_eq_f (X := x3.toInt) (Y := 0) rfl (by decide) (by omega)) ?_
          refine xi_iload (pc' := 92) (x := x4) kc_59_90 rfl rfl ?_
          by_cases c84 : x4.toInt = 0
          · refine xi_ift (pc' := 99) kc_59_92 rfl (xc_eq_t (X := x4.toInt) (Y := 0) rfl (by decide) (by omega)) ?_
            refine xi_iconst (pc' := 100) (v := 0) kc_59_99 rfl rfl ?_
            refine xi_ireturn kc_59_100 mr_59 rfl ?_
            have zc0 : (0 : Int32).toInt = 0 := by decide
            exact kk 0 h (by omega) K
          · refine xi_iff (pc' := 95) kc_59_92 rfl (xc_eq_f (X := x4.toInt) (Y := 0) rfl (by decide) (by omega)) ?_
            refine xi_iconst (pc' := 96) (v := 1) kc_59_95 rfl rfl ?_
            refine xi_goto (pc' := 100) kc_59_96 rfl ?_
            refine xi_ireturn kc_59_100 mr_59 rfl ?_
            have zc1 : (1 : Int32).toInt = 1 := by decide
            exact kk 1 h (by omega) K
      · refine xi_cmf (pc' := 17) kc_59_14 rfl (xc_ge_f (X := x5.toInt) (Y := v81.toInt) rfl rfl (by omega)) ?_
        refine xi_iload_n (pc' := 18) (x := x3) kc_59_17 rfl rfl ?_
        by_cases c85 : x3.toInt = 0
        · refine xi_ift (pc' := 26) kc_59_18 rfl (xc_eq_t (X := x3.toInt) (Y := 0) rfl (by decide) (by omega)) ?_
          refine xi_aload_n (pc' := 27) (x := 115) kc_59_26 rfl rfl ?_
          refine xi_iload (pc' := 29) (x := x5) kc_59_27 rfl rfl ?_
          refine xi_iload_n (pc' := 30) (x := x1) kc_59_29 rfl rfl ?_
          refine xi_virtual (mj := 60) (as := [.int x5, .int x1]) (st1 := []) (lv0 := [(0, .ref 115), (1, .int x5), (2, .int x1)]) kc_59_30 rfl rfl rfl rfl rfl A14 (Nat.le_of_ble_eq_true rfl) (hJ _ _ _ _ (by decide)) (xm_le ml_60 rfl) rfl ?_
          refine mt_60_0 hJ hov1 hov2 (d := d) (x1 := x5) (x2 := x1) K.1 (by first | omega | decide) (by first | omega | decide) (fun r86 hh87 br86 K88 => ?_)
          have K89 := xk_tr K K88 rfl
          refine xp_115 K89.1 (fun u90 u91 u92 u93 u94 u95 u96 u97 u98 u99 u100 u101 u102 bu90 bu91 bu92 bu93 bu94 bu95 bu96 bu97 bu98 bu99 bu100 bu101 bu102 A103 => ?_)
          have e104 : u2 = u91 := xk_eqi (q := 1) K88 rfl A14 A103 rfl rfl
          subst e104
          have e105 : u4 = u93 := xk_eqi (q := 18) K88 rfl A14 A103 rfl rfl
          subst e105
          show xw J ov (d + 3) 59 (33, [(0, .ref 115), (1, .int x1), (2, .int x2), (3, .int x3), (4, .int x4), (5, .int x5)], [.int r86], hh87) _
          by_cases c106 : r86.toInt = 0
          · refine xi_ift (pc' := 80) kc_59_33 rfl (xc_eq_t (X := r86.toInt) (Y := 0) rfl (by decide) (by omega)) ?_
            refine xcps2 (α := Int32) (x5 + 1) (fun v107 ev107 => ?_)
            have zv107 : v107.toInt = (x5.toInt + 1) := by rw [← ev107]; exact (xz_add (X := x5.toInt) (Y := 1) rfl (by decide) (by omega) (by omega)).trans (by omega)
            refine xi_iinc (pc' := 83) (x := x5) (v := v107) (lv' := [(5, .int v107), (0, .ref 115), (1, .int x1), (2, .int x2), (3, .int x3), (4, .int x4)]) kc_59_80 rfl rfl ev107 rfl (xm_lt ml_59 rfl) ?_
            refine xi_goto (pc' := 8) kc_59_83 rfl ?_
            refine xw_lv (b := [(0, .ref 115), (1, .int x1), (2, .int x2), (3, .int x3), (4, .int x4), (5, .int v107)]) (lvS_cons (lvS_cons (lvS_cons (lvS_cons (lvS_cons (lvS_cons (lvS_nil (show ([5, 0, 1, 2, 3, 4] : List Nat).Nodup by decide)) rfl) rfl) rfl) rfl) rfl) rfl) ?_
            exact i0 x1 x2 x3 x4 v107 hh87 (by omega) (by omega) (by omega) (by omega) (by omega) K89 (by omega)
          · refine xi_iff (pc' := 36) kc_59_33 rfl (xc_eq_f (X := r86.toInt) (Y := 0) rfl (by decide) (by omega)) ?_
            refine xi_iload_n (pc' := 37) (x := x3) kc_59_36 rfl rfl ?_
            refine xi_iff (pc' := 40) kc_59_37 rfl (xc_ne_f (X := x3.toInt) (Y := 0) rfl (by decide) (by omega)) ?_
            refine xi_aload_n (pc' := 41) (x := 115) kc_59_40 rfl rfl ?_
            refine xi_iload_n (pc' := 42) (x := x2) kc_59_41 rfl rfl ?_
            refine xi_iload (pc' := 44) (x := x5) kc_59_42 rfl rfl ?_
            refine xi_virtual (mj := 54) (as := [.int x2, .int x5]) (st1 := []) (lv0 := [(0, .ref 115), (1, .int x2), (2, .int x5)]) kc_59_44 rfl rfl rfl rfl rfl A103 (Nat.le_of_ble_eq_true rfl) (hJ _ _ _ _ (by decide)) (xm_le ml_54 rfl) rfl ?_
            refine xi_aload_n (pc' := 1) (x := 115) kc_54_0 rfl rfl ?_
            refine xi_getfield (pc' := 4) (v := .ref 152) kc_54_1 rfl rfl rfl A103 rfl ?_
            refine xi_iload_n (pc' := 5) (x := x2) kc_54_4 rfl rfl ?_
            refine xcps4 (xk_arr K89.1 xD_152) (fun y108 A108 hy108 ry108 => ?_)
            refine xcps4 (xj_get hy108 ry108 (i := x2) (by omega) (by omega)) (fun v109 ev109 bv109 dv109 => ?_)
            refine xi_iaload (pc' := 6) (v := v109) kc_54_5 rfl A108 (by decide) rfl (xi_in (by omega) (by rw [hy108]; omega)) ev109 ?_
            refine xi_iload_n (pc' := 7) (x := x5) kc_54_6 rfl rfl ?_
            refine xcps2 (α := Int32) ((v109 : Int32) &&& x5) (fun v110 ev110 => ?_)
            have rv110 := xc_rng v110
            refine xi_iand (pc' := 8) (v := v110) kc_54_7 rfl ev110 ?_
            by_cases c111 : v110.toInt = 0
            · refine xi_ift (pc' := 15) kc_54_8 rfl (xc_eq_t (X := v110.toInt) (Y := 0) rfl (by decide) (by omega)) ?_
              refine xi_iconst (pc' := 16) (v := 2) kc_54_15 rfl rfl ?_
              refine xi_ireturn kc_54_16 mr_54 rfl ?_
              show xw J ov (d + 3) 59 (47, [(0, .ref 115), (1, .int x1), (2, .int x2), (3, .int x3), (4, .int x4), (5, .int x5)], [.int 2], hh87) _
              refine xi_iconst (pc' := 48) (v := 1) kc_59_47 rfl rfl ?_
              refine xi_cmt (pc' := 55) kc_59_48 rfl rfl ?_
              refine xi_iconst (pc' := 56) (v := 0) kc_59_55 rfl rfl ?_
              refine xi_istore_n (pc' := 57) (lv' := [(3, .int 0), (0, .ref 115), (1, .int x1), (2, .int x2), (4, .int x4), (5, .int x5)]) kc_59_56 rfl rfl (xm_lt ml_59 rfl) ?_
              refine xi_iload (pc' := 59) (x := x4) kc_59_57 rfl rfl ?_
              by_cases c112 : x4.toInt = 0
              · refine xi_iff (pc' := 62) kc_59_59 rfl (xc_ne_f (X := x4.toInt) (Y := 0) rfl (by decide) (by omega)) ?_
                refine xi_aload_n (pc' := 63) (x := 115) kc_59_62 rfl rfl ?_
                refine xi_iload_n (pc' := 64) (x := x2) kc_59_63 rfl rfl ?_
                refine xi_iload (pc' := 66) (x := x5) kc_59_64 rfl rfl ?_
                refine xi_virtual (mj := 54) (as := [.int x2, .int x5]) (st1 := []) (lv0 := [(0, .ref 115), (1, .int x2), (2, .int x5)]) kc_59_66 rfl rfl rfl rfl rfl A103 (Nat.le_of_ble_eq_true rfl) (hJ _ _ _ _ (by decide)) (xm_le ml_54 rfl) rfl ?_
                refine xi_aload_n (pc' := 1) (x := 115) kc_54_0 rfl rfl ?_
                refine xi_getfield (pc' := 4) (v := .ref 152) kc_54_1 rfl rfl rfl A103 rfl ?_
                refine xi_iload_n (pc' := 5) (x := x2) kc_54_4 rfl rfl ?_
                refine xi_iaload (pc' := 6) (v := v109) kc_54_5 rfl A108 (by decide) rfl (xi_in (by omega) (by rw [hy108]; omega)) ev109 ?_
                refine xi_iload_n (pc' := 7) (x := x5) kc_54_6 rfl rfl ?_
                refine xi_iand (pc' := 8) (v := v110) kc_54_7 rfl ev110 ?_
                refine xi_ift (pc' := 15) kc_54_8 rfl (xc_eq_t (X := v110.toInt) (Y := 0) rfl (by decide) (by omega)) ?_
                refine xi_iconst (pc' := 16) (v := 2) kc_54_15 rfl rfl ?_
                refine xi_ireturn kc_54_16 mr_54 rfl ?_
                show xw J ov (d + 3) 59 (69, [(3, .int 0), (0, .ref 115), (1, .int x1), (2, .int x2), (4, .int x4), (5, .int x5)], [.int 2], hh87) _
                refine xi_iconst (pc' := 70) (v := 2) kc_59_69 rfl rfl ?_
                refine xi_cmf (pc' := 73) kc_59_70 rfl rfl ?_
                refine xi_iconst (pc' := 74) (v := 1) kc_59_73 rfl rfl ?_
                refine xi_goto (pc' := 78) kc_59_74 rfl ?_
                refine xi_istore (pc' := 80) (lv' := [(4, .int 1), (3, .int 0), (0, .ref 115), (1, .int x1), (2, .int x2), (5, .int x5)]) kc_59_78 rfl rfl (xm_lt ml_59 rfl) ?_
                refine xcps2 (α := Int32) (x5 + 1) (fun v113 ev113 => ?_)
                have zv113 : v113.toInt = (x5.toInt + 1) := by rw [← ev113]; exact (xz_add (X := x5.toInt) (Y := 1) rfl (by decide) (by omega) (by omega)).trans (by omega)
                refine xi_iinc (pc' := 83) (x := x5) (v := v113) (lv' := [(5, .int v113), (4, .int 1), (3, .int 0), (0, .ref 115), (1, .int x1), (2, .int x2)]) kc_59_80 rfl rfl ev113 rfl (xm_lt ml_59 rfl) ?_
                refine xi_goto (pc' := 8) kc_59_83 rfl ?_
                have zc0 : (0 : Int32).toInt = 0 := by decide
                have zc1 : (1 : Int32).toInt = 1 := by decide
                refine xw_lv (b := [(0, .ref 115), (1, .int x1), (2, .int x2), (3, .int 0), (4, .int 1), (5, .int v113)]) (lvS_cons (lvS_cons (lvS_cons (lvS_cons (lvS_cons (lvS_cons (lvS_nil (show ([5, 4, 3, 0, 1, 2] : List Nat).Nodup by decide)) rfl) rfl) rfl) rfl) rfl) rfl) ?_
                exact i0 x1 x2 0 1 v113 hh87 (by omega) (by omega) (by omega) (by omega) (by omega) K89 (by omega)
              · refine xi_ift (pc' := 73) kc_59_59 rfl (xc_ne_t (X := x4.toInt) (Y := 0) rfl (by decide) (by omega)) ?_
                refine xi_iconst (pc' := 74) (v := 1) kc_59_73 rfl rfl ?_
                refine xi_goto (pc' := 78) kc_59_74 rfl ?_
                refine xi_istore (pc' := 80) (lv' := [(4, .int 1), (3, .int 0), (0, .ref 115), (1, .int x1), (2, .int x2), (5, .int x5)]) kc_59_78 rfl rfl (xm_lt ml_59 rfl) ?_
                refine xcps2 (α := Int32) (x5 + 1) (fun v114 ev114 => ?_)
                have zv114 : v114.toInt = (x5.toInt + 1) := by rw [← ev114]; exact (xz_add (X := x5.toInt) (Y := 1) rfl (by decide) (by omega) (by omega)).trans (by omega)
                refine xi_iinc (pc' := 83) (x := x5) (v := v114) (lv' := [(5, .int v114), (4, .int 1), (3, .int 0), (0, .ref 115), (1, .int x1), (2, .int x2)]) kc_59_80 rfl rfl ev114 rfl (xm_lt ml_59 rfl) ?_
                refine xi_goto (pc' := 8) kc_59_83 rfl ?_
                have zc0 : (0 : Int32).toInt = 0 := by decide
                have zc1 : (1 : Int32).toInt = 1 := by decide
                refine xw_lv (b := [(0, .ref 115), (1, .int x1), (2, .int x2), (3, .int 0), (4, .int 1), (5, .int v114)]) (lvS_cons (lvS_cons (lvS_cons (lvS_cons (lvS_cons (lvS_cons (lvS_nil (show ([5, 4, 3, 0, 1, 2] : List Nat).Nodup by decide)) rfl) rfl) rfl) rfl) rfl) rfl) ?_
                exact i0 x1 x2 0 1 v114 hh87 (by omega) (by omega) (by omega) (by omega) (by omega) K89 (by omega)
            · refine xi_iff (pc' := 11) kc_54_8 rfl (xc_eq_f (X := v110.toInt) (Y := 0) rfl (by decide) (by omega)) ?_
              refine xi_iconst (pc' := 12) (v := 1) kc_54_11 rfl rfl ?_
              refine xi_goto (pc' := 16) kc_54_12 rfl ?_
              refine xi_ireturn kc_54_16 mr_54 rfl ?_
              show xw J ov (d + 3) 59 (47, [(0, .ref 115), (1, .int x1), (2, .int x2), (3, .int x3), (4, .int x4), (5, .int x5)], [.int 1], hh87) _
              refine xi_iconst (pc' := 48) (v := 1) kc_59_47 rfl rfl ?_
              refine xi_cmf (pc' := 51) kc_59_48 rfl rfl ?_
              refine xi_iconst (pc' := 52) (v := 1) kc_59_51 rfl rfl ?_
              refine xi_goto (pc' := 56) kc_59_52 rfl ?_
              refine xi_istore_n (pc' := 57) (lv' := [(3, .int 1), (0, .ref 115), (1, .int x1), (2, .int x2), (4, .int x4), (5, .int x5)]) kc_59_56 rfl rfl (xm_lt ml_59 rfl) ?_
              refine xi_iload (pc' := 59) (x := x4) kc_59_57 rfl rfl ?_
              by_cases c115 : x4.toInt = 0
              · refine xi_iff (pc' := 62) kc_59_59 rfl (xc_ne_f (X := x4.toInt) (Y := 0) rfl (by decide) (by omega)) ?_
                refine xi_aload_n (pc' := 63) (x := 115) kc_59_62 rfl rfl ?_
                refine xi_iload_n (pc' := 64) (x := x2) kc_59_63 rfl rfl ?_
                refine xi_iload (pc' := 66) (x := x5) kc_59_64 rfl rfl ?_
                refine xi_virtual (mj := 54) (as := [.int x2, .int x5]) (st1 := []) (lv0 := [(0, .ref 115), (1, .int x2), (2, .int x5)]) kc_59_66 rfl rfl rfl rfl rfl A103 (Nat.le_of_ble_eq_true rfl) (hJ _ _ _ _ (by decide)) (xm_le ml_54 rfl) rfl ?_
                refine xi_aload_n (pc' := 1) (x := 115) kc_54_0 rfl rfl ?_
                refine xi_getfield (pc' := 4) (v := .ref 152) kc_54_1 rfl rfl rfl A103 rfl ?_
                refine xi_iload_n (pc' := 5) (x := x2) kc_54_4 rfl rfl ?_
                refine xi_iaload (pc' := 6) (v := v109) kc_54_5 rfl A108 (by decide) rfl (xi_in (by omega) (by rw [hy108]; omega)) ev109 ?_
                refine xi_iload_n (pc' := 7) (x := x5) kc_54_6 rfl rfl ?_
                refine xi_iand (pc' := 8) (v := v110) kc_54_7 rfl ev110 ?_
                refine xi_iff (pc' := 11) kc_54_8 rfl (xc_eq_f (X := v110.toInt) (Y := 0) rfl (by decide) (by omega)) ?_
                refine xi_iconst (pc' := 12) (v := 1) kc_54_11 rfl rfl ?_
                refine xi_goto (pc' := 16) kc_54_12 rfl ?_
                refine xi_ireturn kc_54_16 mr_54 rfl ?_
                show xw J ov (d + 3) 59 (69, [(3, .int 1), (0, .ref 115), (1, .int x1), (2, .int x2), (4, .int x4), (5, .int x5)], [.int 1], hh87) _
                refine xi_iconst (pc' := 70) (v := 2) kc_59_69 rfl rfl ?_
                refine xi_cmt (pc' := 77) kc_59_70 rfl rfl ?_
                refine xi_iconst (pc' := 78) (v := 0) kc_59_77 rfl rfl ?_
                refine xi_istore (pc' := 80) (lv' := [(4, .int 0), (3, .int 1), (0, .ref 115), (1, .int x1), (2, .int x2), (5, .int x5)]) kc_59_78 rfl rfl (xm_lt ml_59 rfl) ?_
                refine xcps2 (α := Int32) (x5 + 1) (fun v116 ev116 => ?_)
                have zv116 : v116.toInt = (x5.toInt + 1) := by rw [← ev116]; exact (xz_add (X := x5.toInt) (Y := 1) rfl (by decide) (by omega) (by omega)).trans (by omega)
                refine xi_iinc (pc' := 83) (x := x5) (v := v116) (lv' := [(5, .int v116), (4, .int 0), (3, .int 1), (0, .ref 115), (1, .int x1), (2, .int x2)]) kc_59_80 rfl rfl ev116 rfl (xm_lt ml_59 rfl) ?_
                refine xi_goto (pc' := 8) kc_59_83 rfl ?_
                have zc0 : (0 : Int32).toInt = 0 := by decide
                have zc1 : (1 : Int32).toInt = 1 := by decide
                refine xw_lv (b := [(0, .ref 115), (1, .int x1), (2, .int x2), (3, .int 1), (4, .int 0), (5, .int v116)]) (lvS_cons (lvS_cons (lvS_cons (lvS_cons (lvS_cons (lvS_cons (lvS_nil (show ([5, 4, 3, 0, 1, 2] : List Nat).Nodup by decide)) rfl) rfl) rfl) rfl) rfl) rfl) ?_
                exact i0 x1 x2 1 0 v116 hh87 (by omega) (by omega) (by omega) (by omega) (by omega) K89 (by omega)
              · refine xi_ift (pc' := 73) kc_59_59 rfl (xc_ne_t (X := x4.toInt) (Y := 0) rfl (by decide) (by omega)) ?_
                refine xi_iconst (pc' := 74) (v := 1) kc_59_73 rfl rfl ?_
                refine xi_goto (pc' := 78) kc_59_74 rfl ?_
                refine xi_istore (pc' := 80) (lv' := [(4, .int 1), (3, .int 1), (0, .ref 115), (1, .int x1), (2, .int x2), (5, .int x5)]) kc_59_78 rfl rfl (xm_lt ml_59 rfl) ?_
                refine xcps2 (α := Int32) (x5 + 1) (fun v117 ev117 => ?_)
                have zv117 : v117.toInt = (x5.toInt + 1) := by rw [← ev117]; exact (xz_add (X := x5.toInt) (Y := 1) rfl (by decide) (by omega) (by omega)).trans (by omega)
                refine xi_iinc (pc' := 83) (x := x5) (v := v117) (lv' := [(5, .int v117), (4, .int 1), (3, .int 1), (0, .ref 115), (1, .int x1), (2, .int x2)]) kc_59_80 rfl rfl ev117 rfl (xm_lt ml_59 rfl) ?_
                refine xi_goto (pc' := 8) kc_59_83 rfl ?_
                have zc1 : (1 : Int32).toInt = 1 := by decide
                refine xw_lv (b := [(0, .ref 115), (1, .int x1), (2, .int x2), (3, .int 1), (4, .int 1), (5, .int v117)]) (lvS_cons (lvS_cons (lvS_cons (lvS_cons (lvS_cons (lvS_cons (lvS_nil (show ([5, 4, 3, 0, 1, 2] : List Nat).Nodup by decide)) rfl) rfl) rfl) rfl) rfl) rfl) ?_
                exact i0 x1 x2 1 1 v117 hh87 (by omega) (by omega) (by omega) (by omega) (by omega) K89 (by omega)
        · refine xi_iff (pc' := 21) kc_59_18 rfl (xc_eq_f (X := x3.toInt) (Y := 0) rfl (by decide) (by omega)) ?_
          refine xi_iload (pc' := 23) (x := x4) kc_59_21 rfl rfl ?_
          by_cases c118 : x4.toInt = 0
          · refine xi_iff (pc' := 26) kc_59_23 rfl (xc_ne_f (X := x4.toInt) (Y := 0) rfl (by decide) (by omega)) ?_
            refine xi_aload_n (pc' := 27) (x := 115) kc_59_26 rfl rfl ?_
            refine xi_iload (pc' := 29) (x := x5) kc_59_27 rfl rfl ?_
            refine xi_iload_n (pc' := 30) (x := x1) kc_59_29 rfl rfl ?_
            refine xi_virtual (mj := 60) (as := [.int x5, .int x1]) (st1 := []) (lv0 := [(0, .ref 115), (1, .int x5), (2, .int x1)]) kc_59_30 rfl rfl rfl rfl rfl A14 (Nat.le_of_ble_eq_true rfl) (hJ _ _ _ _ (by decide)) (xm_le ml_60 rfl) rfl ?_
            refine mt_60_0 hJ hov1 hov2 (d := d) (x1 := x5) (x2 := x1) K.1 (by first | omega | decide) (by first | omega | decide) (fun r119 hh120 br119 K121 => ?_)
            have K122 := xk_tr K K121 rfl
            refine xp_115 K122.1 (fun u123 u124 u125 u126 u127 u128 u129 u130 u131 u132 u133 u134 u135 bu123 bu124 bu125 bu126 bu127 bu128 bu129 bu130 bu131 bu132 bu133 bu134 bu135 A136 => ?_)
            have e137 : u2 = u124 := xk_eqi (q := 1) K121 rfl A14 A136 rfl rfl
            subst e137
            have e138 : u4 = u126 := xk_eqi (q := 18) K121 rfl A14 A136 rfl rfl
            subst e138
            show xw J ov (d + 3) 59 (33, [(0, .ref 115), (1, .int x1), (2, .int x2), (3, .int x3), (4, .int x4), (5, .int x5)], [.int r119], hh120) _
            by_cases c139 : r119.toInt = 0
            · refine xi_ift (pc' := 80) kc_59_33 rfl (xc_eq_t (X := r119.toInt) (Y := 0) rfl (by decide) (by omega)) ?_
              refine xcps2 (α := Int32) (x5 + 1) (fun v140 ev140 => ?_)
              have zv140 : v140.toInt = (x5.toInt + 1) := by rw [← ev140]; exact (xz_add (X := x5.toInt) (Y := 1) rfl (by decide) (by omega) (by omega)).trans (by omega)
              refine xi_iinc (pc' := 83) (x := x5) (v := v140) (lv' := [(5, .int v140), (0, .ref 115), (1, .int x1), (2, .int x2), (3, .int x3), (4, .int x4)]) kc_59_80 rfl rfl ev140 rfl (xm_lt ml_59 rfl) ?_
              refine xi_goto (pc' := 8) kc_59_83 rfl ?_
              refine xw_lv (b := [(0, .ref 115), (1, .int x1), (2, .int x2), (3, .int x3), (4, .int x4), (5, .int v140)]) (lvS_cons (lvS_cons (lvS_cons (lvS_cons (lvS_cons (lvS_cons (lvS_nil (show ([5, 0, 1, 2, 3, 4] : List Nat).Nodup by decide)) rfl) rfl) rfl) rfl) rfl) rfl) ?_
              exact i0 x1 x2 x3 x4 v140 hh120 (by omega) (by omega) (by omega) (by omega) (by omega) K122 (by omega)
            · refine xi_iff (pc' := 36) kc_59_33 rfl (xc_eq_f (X := r119.toInt) (Y := 0) rfl (by decide) (by omega)) ?_
              refine xi_iload_n (pc' := 37) (x := x3) kc_59_36 rfl rfl ?_
              refine xi_ift (pc' := 51) kc_59_37 rfl (xc_ne_t (X := x3.toInt) (Y := 0) rfl (by decide) (by omega)) ?_
              refine xi_iconst (pc' := 52) (v := 1) kc_59_51 rfl rfl ?_
              refine xi_goto (pc' := 56) kc_59_52 rfl ?_
              refine xi_istore_n (pc' := 57) (lv' := [(3, .int 1), (0, .ref 115), (1, .int x1), (2, .int x2), (4, .int x4), (5, .int x5)]) kc_59_56 rfl rfl (xm_lt ml_59 rfl) ?_
              refine xi_iload (pc' := 59) (x := x4) kc_59_57 rfl rfl ?_
              refine xi_iff (pc' := 62) kc_59_59 rfl (xc_ne_f (X := x4.toInt) (Y := 0) rfl (by decide) (by omega)) ?_
              refine xi_aload_n (pc' := 63) (x := 115) kc_59_62 rfl rfl ?_
              refine xi_iload_n (pc' := 64) (x := x2) kc_59_63 rfl rfl ?_
              refine xi_iload (pc' := 66) (x := x5) kc_59_64 rfl rfl ?_
              refine xi_virtual (mj := 54) (as := [.int x2, .int x5]) (st1 := []) (lv0 := [(0, .ref 115), (1, .int x2), (2, .int x5)]) kc_59_66 rfl rfl rfl rfl rfl A136 (Nat.le_of_ble_eq_true rfl) (hJ _ _ _ _ (by decide)) (xm_le ml_54 rfl) rfl ?_
              refine xi_aload_n (pc' := 1) (x := 115) kc_54_0 rfl rfl ?_
              refine xi_getfield (pc' := 4) (v := .ref 152) kc_54_1 rfl rfl rfl A136 rfl ?_
              refine xi_iload_n (pc' := 5) (x := x2) kc_54_4 rfl rfl ?_
              refine xcps4 (xk_arr K122.1 xD_152) (fun y141 A141 hy141 ry141 => ?_)
              refine xcps4 (xj_get hy141 ry141 (i := x2) (by omega) (by omega)) (fun v142 ev142 bv142 dv142 => ?_)
              refine xi_iaload (pc' := 6) (v := v142) kc_54_5 rfl A141 (by decide) rfl (xi_in (by omega) (by rw [hy141]; omega)) ev142 ?_
              refine xi_iload_n (pc' := 7) (x := x5) kc_54_6 rfl rfl ?_
              refine xcps2 (α := Int32) ((v142 : Int32) &&& x5) (fun v143 ev143 => ?_)
              have rv143 := xc_rng v143
              refine xi_iand (pc' := 8) (v := v143) kc_54_7 rfl ev143 ?_
              by_cases c144 : v143.toInt = 0
              · refine xi_ift (pc' := 15) kc_54_8 rfl (xc_eq_t (X := v143.toInt) (Y := 0) rfl (by decide) (by omega)) ?_
                refine xi_iconst (pc' := 16) (v := 2) kc_54_15 rfl rfl ?_
                refine xi_ireturn kc_54_16 mr_54 rfl ?_
                show xw J ov (d + 3) 59 (69, [(3, .int 1), (0, .ref 115), (1, .int x1), (2, .int x2), (4, .int x4), (5, .int x5)], [.int 2], hh120) _
                refine xi_iconst (pc' := 70) (v := 2) kc_59_69 rfl rfl ?_
                refine xi_cmf (pc' := 73) kc_59_70 rfl rfl ?_
                refine xi_iconst (pc' := 74) (v := 1) kc_59_73 rfl rfl ?_
                refine xi_goto (pc' := 78) kc_59_74 rfl ?_
                refine xi_istore (pc' := 80) (lv' := [(4, .int 1), (3, .int 1), (0, .ref 115), (1, .int x1), (2, .int x2), (5, .int x5)]) kc_59_78 rfl rfl (xm_lt ml_59 rfl) ?_
                refine xcps2 (α := Int32) (x5 + 1) (fun v145 ev145 => ?_)
                have zv145 : v145.toInt = (x5.toInt + 1) := by rw [← ev145]; exact (xz_add (X := x5.toInt) (Y := 1) rfl (by decide) (by omega) (by omega)).trans (by omega)
                refine xi_iinc (pc' := 83) (x := x5) (v := v145) (lv' := [(5, .int v145), (4, .int 1), (3, .int 1), (0, .ref 115), (1, .int x1), (2, .int x2)]) kc_59_80 rfl rfl ev145 rfl (xm_lt ml_59 rfl) ?_
                refine xi_goto (pc' := 8) kc_59_83 rfl ?_
                have zc1 : (1 : Int32).toInt = 1 := by decide
                refine xw_lv (b := [(0, .ref 115), (1, .int x1), (2, .int x2), (3, .int 1), (4, .int 1), (5, .int v145)]) (lvS_cons (lvS_cons (lvS_cons (lvS_cons (lvS_cons (lvS_cons (lvS_nil (show ([5, 4, 3, 0, 1, 2] : List Nat).Nodup by decide)) rfl) rfl) rfl) rfl) rfl) rfl) ?_
                exact i0 x1 x2 1 1 v145 hh120 (by omega) (by omega) (by omega) (by omega) (by omega) K122 (by omega)
              · refine xi_iff (pc' := 11) kc_54_8 rfl (xc_eq_f (X := v143.toInt) (Y := 0) rfl (by decide) (by omega)) ?_
                refine xi_iconst (pc' := 12) (v := 1) kc_54_11 rfl rfl ?_
                refine xi_goto (pc' := 16) kc_54_12 rfl ?_
                refine xi_ireturn kc_54_16 mr_54 rfl ?_
                show xw J ov (d + 3) 59 (69, [(3, .int 1), (0, .ref 115), (1, .int x1), (2, .int x2), (4, .int x4), (5, .int x5)], [.int 1], hh120) _
                refine xi_iconst (pc' := 70) (v := 2) kc_59_69 rfl rfl ?_
                refine xi_cmt (pc' := 77) kc_59_70 rfl rfl ?_
                refine xi_iconst (pc' := 78) (v := 0) kc_59_77 rfl rfl ?_
                refine xi_istore (pc' := 80) (lv' := [(4, .int 0), (3, .int 1), (0, .ref 115), (1, .int x1), (2, .int x2), (5, .int x5)]) kc_59_78 rfl rfl (xm_lt ml_59 rfl) ?_
                refine xcps2 (α := Int32) (x5 + 1) (fun v146 ev146 => ?_)
                have zv146 : v146.toInt = (x5.toInt + 1) := by rw [← ev146]; exact (xz_add (X := x5.toInt) (Y := 1) rfl (by decide) (by omega) (by omega)).trans (by omega)
                refine xi_iinc (pc' := 83) (x := x5) (v := v146) (lv' := [(5, .int v146), (4, .int 0), (3, .int 1), (0, .ref 115), (1, .int x1), (2, .int x2)]) kc_59_80 rfl rfl ev146 rfl (xm_lt ml_59 rfl) ?_
                refine xi_goto (pc' := 8) kc_59_83 rfl ?_
                have zc0 : (0 : Int32).toInt = 0 := by decide
                have zc1 : (1 : Int32).toInt = 1 := by decide
                refine xw_lv (b := [(0, .ref 115), (1, .int x1), (2, .int x2), (3, .int 1), (4, .int 0), (5, .int v146)]) (lvS_cons (lvS_cons (lvS_cons (lvS_cons (lvS_cons (lvS_cons (lvS_nil (show ([5, 4, 3, 0, 1, 2] : List Nat).Nodup by decide)) rfl) rfl) rfl) rfl) rfl) rfl) ?_
                exact i0 x1 x2 1 0 v146 hh120 (by omega) (by omega) (by omega) (by omega) (by omega) K122 (by omega)
          · refine xi_ift (pc' := 86) kc_59_23 rfl (xc_ne_t (X := x4.toInt) (Y := 0) rfl (by decide) (by omega)) ?_
            refine xi_iload_n (pc' := 87) (x := x3) kc_59_86 rfl rfl ?_
            refine xi_iff (pc' := 90) kc_59_87 rfl (xc_eq_f (X := x3.toInt) (Y := 0) rfl (by decide) (by omega)) ?_
            refine xi_iload (pc' := 92) (x := x4) kc_59_90 rfl rfl ?_
            refine xi_iff (pc' := 95) kc_59_92 rfl (xc_eq_f (X := x4.toInt) (Y := 0) rfl (by decide) (by omega)) ?_
            refine xi_iconst (pc' := 96) (v := 1) kc_59_95 rfl rfl ?_
            refine xi_goto (pc' := 100) kc_59_96 rfl ?_
            refine xi_ireturn kc_59_100 mr_59 rfl ?_
            have zc1 : (1 : Int32).toInt = 1 := by decide
            exact kk 1 h (by omega) K
set_option maxHeartbeats 4000000 in
theorem mt_59_0 {J : xe_J} {ov : List (List Int32)} (hJ : ∀ d mj as h, mj ≠ xe_loff → J d mj as h = none) (hov1 : ov[1]? = some [10, 0, 0, 0, 0, 0]) (hov2 : ov[2]? = some [99, 30, 50, 50, 1, 99999]) {d : Nat} {Q : Option Value → xe_H → Prop} {h : xe_H} {x1 : Int32} {x2 : Int32} (T : xt h) (b1 : (0 ≤ x1.toInt ∧ x1.toInt ≤ 6560)) (b2 : (0 ≤ x2.toInt ∧ x2.toInt ≤ 7)) (kk : (∀ (r : Int32) (h' : xe_H), (0 ≤ r.toInt ∧ r.toInt ≤ 1) → xk [(0, 9), (115, 1), (83, 0), (29, 0), (31, 0), (33, 0), (35, 0), (37, 0), (39, 0), (41, 0), (43, 0), (45, 0), (47, 0), (49, 0), (51, 0), (125, 0), (66, 8), (115, 18), (71, 0), (132, 0)] h h' → Q (some (.int r)) h')) : xw J ov (d + 3) 59 (0, [(0, .ref 115), (1, .int x1), (2, .int x2)], [], h) Q := by
  have K : xk [(0, 9), (115, 1), (83, 0), (29, 0), (31, 0), (33, 0), (35, 0), (37, 0), (39, 0), (41, 0), (43, 0), (45, 0), (47, 0), (49, 0), (51, 0), (125, 0), (66, 8), (115, 18), (71, 0), (132, 0)] h h := xk_re T
  refine xi_iconst (pc' := 1) (v := 0) kc_59_0 rfl rfl ?_
  refine xi_istore_n (pc' := 2) (lv' := [(3, .int 0), (0, .ref 115), (1, .int x1), (2, .int x2)]) kc_59_1 rfl rfl (xm_lt ml_59 rfl) ?_
  refine xi_iconst (pc' := 3) (v := 0) kc_59_2 rfl rfl ?_
  refine xi_istore (pc' := 5) (lv' := [(4, .int 0), (3, .int 0), (0, .ref 115), (1, .int x1), (2, .int x2)]) kc_59_3 rfl rfl (xm_lt ml_59 rfl) ?_
  refine xi_iconst (pc' := 6) (v := 0) kc_59_5 rfl rfl ?_
  refine xi_istore (pc' := 8) (lv' := [(5, .int 0), (4, .int 0), (3, .int 0), (0, .ref 115), (1, .int x1), (2, .int x2)]) kc_59_6 rfl rfl (xm_lt ml_59 rfl) ?_
  have zc0 : (0 : Int32).toInt = 0 := by decide
  refine xw_lv (b := [(0, .ref 115), (1, .int x1), (2, .int x2), (3, .int 0), (4, .int 0), (5, .int 0)]) (lvS_cons (lvS_cons (lvS_cons (lvS_cons (lvS_cons (lvS_cons (lvS_nil (show ([5, 4, 3, 0, 1, 2] : List Nat).Nodup by decide)) rfl) rfl) rfl) rfl) rfl) rfl) ?_
  exact (lp_59_0 hJ hov1 hov2 (d := d) (hb := h) (fun r9 h9 b9 K9 => kk r9 h9 b9 (xk_tr K K9 rfl)) 65) x1 x2 0 0 0 h (by omega) (by omega) (by omega) (by omega) (by omega) (xk_re K.1) (by omega)
set_option maxHeartbeats 4000000 in
theorem lp_58_0 {J : xe_J} {ov : List (List Int32)} (hJ : ∀ d mj as h, mj ≠ xe_loff → J d mj as h = none) (hov1 : ov[1]? = some [10, 0, 0, 0, 0, 0]) (hov2 : ov[2]? = some [99, 30, 50, 50, 1, 99999]) {d : Nat} {Q : Option Value → xe_H → Prop} {hb : xe_H} (kk : (∀ (r : Int32) (h' : xe_H), xk [(0, 9), (115, 1), (83, 0), (29, 0), (31, 0), (33, 0), (35, 0), (37, 0), (39, 0), (41, 0), (43, 0), (45, 0), (47, 0), (49, 0), (51, 0), (125, 0), (66, 8), (115, 18), (71, 0), (132, 0)] hb h' → Q (some (.int r)) h')) : ∀ m : Nat, (∀ (x2 : Int32) (h : xe_H), (0 ≤ x2.toInt ∧ x2.toInt ≤ 0) → xk [(0, 9), (115, 1), (83, 0), (29, 0), (31, 0), (33, 0), (35, 0), (37, 0), (39, 0), (41, 0), (43, 0), (45, 0), (47, 0), (49, 0), (51, 0), (125, 0), (66, 8), (115, 18), (71, 0), (132, 0)] hb h → (-1) * 0 + 65628 < (m : Int) → xw J ov (d + 7) 58 (15, [(0, .ref 115), (1, .int 1), (2, .int x2), (3, .int 0)], [], h) Q) ∧ (∀ (x2 : Int32) (h : xe_H), (0 ≤ x2.toInt ∧ x2.toInt ≤ 2) → xk [(0, 9), (115, 1), (83, 0), (29, 0), (31, 0), (33, 0), (35, 0), (37, 0), (39, 0), (41, 0), (43, 0), (45, 0), (47, 0), (49, 0), (51, 0), (125, 0), (66, 8), (115, 18), (71, 0), (132, 0)] hb h → (-1) * 1 + 65628 < (m : Int) → xw J ov (d + 7) 58 (15, [(0, .ref 115), (1, .int 3), (2, .int x2), (3, .int 1)], [], h) Q) ∧ (∀ (x2 : Int32) (h : xe_H), (0 ≤ x2.toInt ∧ x2.toInt ≤ 8) → xk [(0, 9), (115, 1), (83, 0), (29, 0), (31, 0), (33, 0), (35, 0), (37, 0), (39, 0), (41, 0), (43, 0), (45, 0), (47, 0), (49, 0), (51, 0), (125, 0), (66, 8), (115, 18), (71, 0), (132, 0)] hb h → (-1) * 2 + 65628 < (m : Int) → xw J ov (d + 7) 58 (15, [(0, .ref 115), (1, .int 9), (2, .int x2), (3, .int 2)], [], h) Q) ∧ (∀ (x2 : Int32) (h : xe_H), (0 ≤ x2.toInt ∧ x2.toInt ≤ 26) → xk [(0, 9), (115, 1), (83, 0), (29, 0), (31, 0), (33, 0), (35, 0), (37, 0), (39, 0), (41, 0), (43, 0), (45, 0), (47, 0), (49, 0), (51, 0), (125, 0), (66, 8), (115, 18), (71, 0), (132, 0)] hb h → (-1) * 3 + 65628 < (m : Int) → xw J ov (d + 7) 58 (15, [(0, .ref 115), (1, .int 27), (2, .int x2), (3, .int 3)], [], h) Q) ∧ (∀ (x2 : Int32) (h : xe_H), (0 ≤ x2.toInt ∧ x2.toInt ≤ 80) → xk [(0, 9), (115, 1), (83, 0), (29, 0), (31, 0), (33, 0), (35, 0), (37, 0), (39, 0), (41, 0), (43, 0), (45, 0), (47, 0), (49, 0), (51, 0), (125, 0), (66, 8), (115, 18), (71, 0), (132, 0)] hb h → (-1) * 4 + 65628 < (m : Int) → xw J ov (d + 7) 58 (15, [(0, .ref 115), (1, .int 81), (2, .int x2), (3, .int 4)], [], h) Q) ∧ (∀ (x2 : Int32) (h : xe_H), (0 ≤ x2.toInt ∧ x2.toInt ≤ 242) → xk [(0, 9), (115, 1), (83, 0), (29, 0), (31, 0), (33, 0), (35, 0), (37, 0), (39, 0), (41, 0), (43, 0), (45, 0), (47, 0), (49, 0), (51, 0), (125, 0), (66, 8), (115, 18), (71, 0), (132, 0)] hb h → (-1) * 5 + 65628 < (m : Int) → xw J ov (d + 7) 58 (15, [(0, .ref 115), (1, .int 243), (2, .int x2), (3, .int 5)], [], h) Q) ∧ (∀ (x2 : Int32) (h : xe_H), (0 ≤ x2.toInt ∧ x2.toInt ≤ 728) → xk [(0, 9), (115, 1), (83, 0), (29, 0), (31, 0), (33, 0), (35, 0), (37, 0), (39, 0), (41, 0), (43, 0), (45, 0), (47, 0), (49, 0), (51, 0), (125, 0), (66, 8), (115, 18), (71, 0), (132, 0)] hb h → (-1) * 6 + 65628 < (m : Int) → xw J ov (d + 7) 58 (15, [(0, .ref 115), (1, .int 729), (2, .int x2), (3, .int 6)], [], h) Q) ∧ (∀ (x2 : Int32) (h : xe_H), (0 ≤ x2.toInt ∧ x2.toInt ≤ 2186) → xk [(0, 9), (115, 1), (83, 0), (29, 0), (31, 0), (33, 0), (35, 0), (37, 0), (39, 0), (41, 0), (43, 0), (45, 0), (47, 0), (49, 0), (51, 0), (125, 0), (66, 8), (115, 18), (71, 0), (132, 0)] hb h → (-1) * 7 + 65628 < (m : Int) → xw J ov (d + 7) 58 (15, [(0, .ref 115), (1, .int 2187), (2, .int x2), (3, .int 7)], [], h) Q) ∧ (∀ (x2 : Int32) (h : xe_H), (0 ≤ x2.toInt ∧ x2.toInt ≤ 6560) → xk [(0, 9), (115, 1), (83, 0), (29, 0), (31, 0), (33, 0), (35, 0), (37, 0), (39, 0), (41, 0), (43, 0), (45, 0), (47, 0), (49, 0), (51, 0), (125, 0), (66, 8), (115, 18), (71, 0), (132, 0)] hb h → (-1) * 8 + 65628 < (m : Int) → xw J ov (d + 7) 58 (15, [(0, .ref 115), (1, .int 6561), (2, .int x2), (3, .int 8)], [], h) Q) ∧ (∀ (x2 : Int32) (x3 : Int32) (h : xe_H), (0 ≤ x2.toInt ∧ x2.toInt ≤ 6560) → ((-1) ≤ x3.toInt ∧ x3.toInt ≤ 6560) → xk [(0, 9), (115, 1), (83, 0), (29, 0), (31, 0), (33, 0), (35, 0), (37, 0), (39, 0), (41, 0), (43, 0), (45, 0), (47, 0), (49, 0), (51, 0), (125, 0), (66, 8), (115, 18), (71, 0), (132, 0)] hb h → (10) * x3.toInt + 19 < (m : Int) → xw J ov (d + 7) 58 (48, [(0, .ref 115), (2, .int x2), (3, .int x3)], [], h) Q) ∧ (∀ (x2 : Int32) (x3 : Int32) (x4 : Int32) (h : xe_H), (0 ≤ x2.toInt ∧ x2.toInt ≤ 6560) → (0 ≤ x3.toInt ∧ x3.toInt ≤ 6560) → ((-1) ≤ x4.toInt ∧ x4.toInt ≤ (-1)) → xk [(0, 9), (115, 1), (83, 0), (29, 0), (31, 0), (33, 0), (35, 0), (37, 0), (39, 0), (41, 0), (43, 0), (45, 0), (47, 0), (49, 0), (51, 0), (125, 0), (66, 8), (115, 18), (71, 0), (132, 0)] hb h → (10) * x3.toInt + (-1) * 0 + 18 < (m : Int) → xw J ov (d + 7) 58 (62, [(0, .ref 115), (2, .int x2), (3, .int x3), (4, .int x4), (5, .int 1), (6, .int 0)], [], h) Q) ∧ (∀ (x2 : Int32) (x3 : Int32) (x4 : Int32) (h : xe_H), (0 ≤ x2.toInt ∧ x2.toInt ≤ 6560) → (0 ≤ x3.toInt ∧ x3.toInt ≤ 6560) → xk [(0, 9), (115, 1), (83, 0), (29, 0), (31, 0), (33, 0), (35, 0), (37, 0), (39, 0), (41, 0), (43, 0), (45, 0), (47, 0), (49, 0), (51, 0), (125, 0), (66, 8), (115, 18), (71, 0), (132, 0)] hb h → (10) * x3.toInt + (-1) * 1 + 18 < (m : Int) → xw J ov (d + 7) 58 (62, [(0, .ref 115), (2, .int x2), (3, .int x3), (4, .int x4), (5, .int 3), (6, .int 1)], [], h) Q) ∧ (∀ (x2 : Int32) (x3 : Int32) (x4 : Int32) (h : xe_H), (0 ≤ x2.toInt ∧ x2.toInt ≤ 6560) → (0 ≤ x3.toInt ∧ x3.toInt ≤ 6560) → xk [(0, 9), (115, 1), (83, 0), (29, 0), (31, 0), (33, 0), (35, 0), (37, 0), (39, 0), (41, 0), (43, 0), (45, 0), (47, 0), (49, 0), (51, 0), (125, 0), (66, 8), (115, 18), (71, 0), (132, 0)] hb h → (10) * x3.toInt + (-1) * 2 + 18 < (m : Int) → xw J ov (d + 7) 58 (62, [(0, .ref 115), (2, .int x2), (3, .int x3), (4, .int x4), (5, .int 9), (6, .int 2)], [], h) Q) ∧ (∀ (x2 : Int32) (x3 : Int32) (x4 : Int32) (h : xe_H), (0 ≤ x2.toInt ∧ x2.toInt ≤ 6560) → (0 ≤ x3.toInt ∧ x3.toInt ≤ 6560) → xk [(0, 9), (115, 1), (83, 0), (29, 0), (31, 0), (33, 0), (35, 0), (37, 0), (39, 0), (41, 0), (43, 0), (45, 0), (47, 0), (49, 0), (51, 0), (125, 0), (66, 8), (115, 18), (71, 0), (132, 0)] hb h → (10) * x3.toInt + (-1) * 3 + 18 < (m : Int) → xw J ov (d + 7) 58 (62, [(0, .ref 115), (2, .int x2), (3, .int x3), (4, .int x4), (5, .int 27), (6, .int 3)], [], h) Q) ∧ (∀ (x2 : Int32) (x3 : Int32) (x4 : Int32) (h : xe_H), (0 ≤ x2.toInt ∧ x2.toInt ≤ 6560) → (0 ≤ x3.toInt ∧ x3.toInt ≤ 6560) → xk [(0, 9), (115, 1), (83, 0), (29, 0), (31, 0), (33, 0), (35, 0), (37, 0), (39, 0), (41, 0), (43, 0), (45, 0), (47, 0), (49, 0), (51, 0), (125, 0), (66, 8), (115, 18), (71, 0), (132, 0)] hb h → (10) * x3.toInt + (-1) * 4 + 18 < (m : Int) → xw J ov (d + 7) 58 (62, [(0, .ref 115), (2, .int x2), (3, .int x3), (4, .int x4), (5, .int 81), (6, .int 4)], [], h) Q) ∧ (∀ (x2 : Int32) (x3 : Int32) (x4 : Int32) (h : xe_H), (0 ≤ x2.toInt ∧ x2.toInt ≤ 6560) → (0 ≤ x3.toInt ∧ x3.toInt ≤ 6560) → xk [(0, 9), (115, 1), (83, 0), (29, 0), (31, 0), (33, 0), (35, 0), (37, 0), (39, 0), (41, 0), (43, 0), (45, 0), (47, 0), (49, 0), (51, 0), (125, 0), (66, 8), (115, 18), (71, 0), (132, 0)] hb h → (10) * x3.toInt + (-1) * 5 + 18 < (m : Int) → xw J ov (d + 7) 58 (62, [(0, .ref 115), (2, .int x2), (3, .int x3), (4, .int x4), (5, .int 243), (6, .int 5)], [], h) Q) ∧ (∀ (x2 : Int32) (x3 : Int32) (x4 : Int32) (h : xe_H), (0 ≤ x2.toInt ∧ x2.toInt ≤ 6560) → (0 ≤ x3.toInt ∧ x3.toInt ≤ 6560) → xk [(0, 9), (115, 1), (83, 0), (29, 0), (31, 0), (33, 0), (35, 0), (37, 0), (39, 0), (41, 0), (43, 0), (45, 0), (47, 0), (49, 0), (51, 0), (125, 0), (66, 8), (115, 18), (71, 0), (132, 0)] hb h → (10) * x3.toInt + (-1) * 6 + 18 < (m : Int) → xw J ov (d + 7) 58 (62, [(0, .ref 115), (2, .int x2), (3, .int x3), (4, .int x4), (5, .int 729), (6, .int 6)], [], h) Q) ∧ (∀ (x2 : Int32) (x3 : Int32) (x4 : Int32) (h : xe_H), (0 ≤ x2.toInt ∧ x2.toInt ≤ 6560) → (0 ≤ x3.toInt ∧ x3.toInt ≤ 6560) → xk [(0, 9), (115, 1), (83, 0), (29, 0), (31, 0), (33, 0), (35, 0), (37, 0), (39, 0), (41, 0), (43, 0), (45, 0), (47, 0), (49, 0), (51, 0), (125, 0), (66, 8), (115, 18), (71, 0), (132, 0)] hb h → (10) * x3.toInt + (-1) * 7 + 18 < (m : Int) → xw J ov (d + 7) 58 (62, [(0, .ref 115), (2, .int x2), (3, .int x3), (4, .int x4), (5, .int 2187), (6, .int 7)], [], h) Q) ∧ (∀ (x2 : Int32) (x3 : Int32) (x4 : Int32) (h : xe_H), (0 ≤ x2.toInt ∧ x2.toInt ≤ 6560) → (0 ≤ x3.toInt ∧ x3.toInt ≤ 6560) → xk [(0, 9), (115, 1), (83, 0), (29, 0), (31, 0), (33, 0), (35, 0), (37, 0), (39, 0), (41, 0), (43, 0), (45, 0), (47, 0), (49, 0), (51, 0), (125, 0), (66, 8), (115, 18), (71, 0), (132, 0)] hb h → (10) * x3.toInt + (-1) * 8 + 18 < (m : Int) → xw J ov (d + 7) 58 (62, [(0, .ref 115), (2, .int x2), (3, .int x3), (4, .int x4), (5, .int 6561), (6, .int 8)], [], h) Q) := by
  intro m
  induction m with
  | zero =>
    refine ⟨?_, ?_, ?_, ?_, ?_, ?_, ?_, ?_, ?_, ?_, ?_, ?_, ?_, ?_, ?_, ?_, ?_, ?_, ?_⟩
    · intro x2 h b2 K hm; exfalso; omega
    · intro x2 h b2 K hm; exfalso; omega
    · intro x2 h b2 K hm; exfalso; omega
    · intro x2 h b2 K hm; exfalso; omega
    · intro x2 h b2 K hm; exfalso; omega
    · intro x2 h b2 K hm; exfalso; omega
    · intro x2 h b2 K hm; exfalso; omega
    · intro x2 h b2 K hm; exfalso; omega
    · intro x2 h b2 K hm; exfalso; omega
    · intro x2 x3 h b2 b3 K hm; exfalso; omega
    · intro x2 x3 x4 h b2 b3 b4 K hm; exfalso; omega
    · intro x2 x3 x4 h b2 b3 K hm; have rx4 := xc_rng x4; exfalso; omega
    · intro x2 x3 x4 h b2 b3 K hm; have rx4 := xc_rng x4; exfalso; omega
    · intro x2 x3 x4 h b2 b3 K hm; have rx4 := xc_rng x4; exfalso; omega
    · intro x2 x3 x4 h b2 b3 K hm; have rx4 := xc_rng x4; exfalso; omega
    · intro x2 x3 x4 h b2 b3 K hm; have rx4 := xc_rng x4; exfalso; omega
    · intro x2 x3 x4 h b2 b3 K hm; have rx4 := xc_rng x4; exfalso; omega
    · intro x2 x3 x4 h b2 b3 K hm; have rx4 := xc_rng x4; exfalso; omega
    · intro x2 x3 x4 h b2 b3 K hm; have rx4 := xc_rng x4; exfalso; omega
  | succ m ih =>
    obtain ⟨i0, i1, i2, i3, i4, i5, i6, i7, i8, i9, i10, i11, i12, i13, i14, i15, i16, i17, i18⟩ := ih
    refine ⟨?_, ?_, ?_, ?_, ?_, ?_, ?_, ?_, ?_, ?_, ?_, ?_, ?_, ?_, ?_, ?_, ?_, ?_, ?_⟩
    · intro x2 h b2 K hm
      refine xi_iload_n (pc' := 16) (x := 0) kc_58_15 rfl rfl ?_
      refine xi_aload_n (pc' := 17) (x := 115) kc_58_16 rfl rfl ?_
      refine xp_115 K.1 (fun u1 u2 u3 u4 u5 u6 u7 u8 u9 u10 u11 u12 u13 bu1 bu2 bu3 bu4 bu5 bu6 bu7 bu8 bu9 bu10 bu11 bu12 bu13 A14 => ?_)
      refine xi_getfield (pc' := 20) (v := .int u10) kc_58_17 rfl rfl rfl A14 rfl ?_
      by_cases c15 : u10.toInt ≤ 0
      · refine xi_cmt (pc' := 44) kc_58_20 rfl (xc_ge_t (X := 0) (Y := u10.toInt) (by decide) rfl (by omega)) ?_
        refine xi_iload_n (pc' := 45) (x := 1) kc_58_44 rfl rfl ?_
        refine xi_iconst (pc' := 46) (v := 1) kc_58_45 rfl rfl ?_
        refine xi_isub (pc' := 47) (v := 0) kc_58_46 rfl rfl ?_
        refine xi_istore_n (pc' := 48) (lv' := [(3, .int 0), (0, .ref 115), (1, .int 1), (2, .int x2)]) kc_58_47 rfl rfl (xm_lt ml_58 rfl) ?_
        have zc0 : (0 : Int32).toInt = 0 := by decide
        refine xw_lv (b := [(0, .ref 115), (2, .int x2), (3, .int 0)]) (lvS_cons (lvS_cons (lvS_cons (lvS_nil (show ([3, 0, 1, 2] : List Nat).Nodup by decide)) rfl) rfl) rfl) ?_
        exact i9 x2 0 h (by omega) (by omega) K (by omega)
      · refine xi_cmf (pc' := 23) kc_58_20 rfl (xc_ge_f (X := 0) (Y := u10.toInt) (by decide) rfl (by omega)) ?_
        refine xi_iload_n (pc' := 24) (x := x2) kc_58_23 rfl rfl ?_
        refine xi_iload_n (pc' := 25) (x := 1) kc_58_24 rfl rfl ?_
        refine xi_aload_n (pc' := 26) (x := 115) kc_58_25 rfl rfl ?_
        refine xi_getfield (pc' := 29) (v := .ref 154) kc_58_26 rfl rfl rfl A14 rfl ?_
        refine xi_iload_n (pc' := 30) (x := 0) kc_58_29 rfl rfl ?_
        refine xcps4 (xk_arr K.1 xD_154) (fun y16 A16 hy16 ry16 => ?_)
        refine xcps4 (xj_get hy16 ry16 (i := 0) (by decide) (by decide)) (fun v17 ev17 bv17 dv17 => ?_)
        refine xi_iaload (pc' := 31) (v := v17) kc_58_30 rfl A16 (by decide) rfl (xi_in (by decide) (by rw [hy16]; decide)) ev17 ?_
        refine xcps2 (α := Int32) (1 * v17) (fun v18 ev18 => ?_)
        have zv18 : v18.toInt = v17.toInt := by rw [← ev18]; exact (xz_mul (X := 1) (Y := v17.toInt) (by decide) rfl (by omega) (by omega)).trans (by omega)
        refine xi_imul (pc' := 32) (v := v18) kc_58_31 rfl ev18 ?_
        refine xcps2 (α := Int32) (x2 + v18) (fun v19 ev19 => ?_)
        have zv19 : v19.toInt = (x2.toInt + v17.toInt) := by rw [← ev19]; exact (xz_add (X := x2.toInt) (Y := v17.toInt) rfl zv18 (by omega) (by omega)).trans (by omega)
        refine xi_iadd (pc' := 33) (v := v19) kc_58_32 rfl ev19 ?_
        refine xi_istore_n (pc' := 34) (lv' := [(2, .int v19), (0, .ref 115), (1, .int 1), (3, .int 0)]) kc_58_33 rfl rfl (xm_lt ml_58 rfl) ?_
        refine xi_iload_n (pc' := 35) (x := 1) kc_58_34 rfl rfl ?_
        refine xi_iconst (pc' := 36) (v := 3) kc_58_35 rfl rfl ?_
        refine xi_imul (pc' := 37) (v := 3) kc_58_36 rfl rfl ?_
        refine xi_istore_n (pc' := 38) (lv' := [(1, .int 3), (2, .int v19), (0, .ref 115), (3, .int 0)]) kc_58_37 rfl rfl (xm_lt ml_58 rfl) ?_
        refine xi_iinc (pc' := 41) (x := 0) (v := 1) (lv' := [(3, .int 1), (1, .int 3), (2, .int v19), (0, .ref 115)]) kc_58_38 rfl rfl rfl rfl (xm_lt ml_58 rfl) ?_
        refine xi_goto (pc' := 15) kc_58_41 rfl ?_
        have zc1 : (1 : Int32).toInt = 1 := by decide
        have zc3 : (3 : Int32).toInt = 3 := by decide
        refine xw_lv (b := [(0, .ref 115), (1, .int 3), (2, .int v19), (3, .int 1)]) (lvS_cons (lvS_cons (lvS_cons (lvS_cons (lvS_nil (show ([3, 1, 2, 0] : List Nat).Nodup by decide)) rfl) rfl) rfl) rfl) ?_
        exact i1 v19 h (by omega) K (by omega)
    · intro x2 h b2 K hm
      refine xi_iload_n (pc' := 16) (x := 1) kc_58_15 rfl rfl ?_
      refine xi_aload_n (pc' := 17) (x := 115) kc_58_16 rfl rfl ?_
      refine xp_115 K.1 (fun u1 u2 u3 u4 u5 u6 u7 u8 u9 u10 u11 u12 u13 bu1 bu2 bu3 bu4 bu5 bu6 bu7 bu8 bu9 bu10 bu11 bu12 bu13 A14 => ?_)
      refine xi_getfield (pc' := 20) (v := .int u10) kc_58_17 rfl rfl rfl A14 rfl ?_
      by_cases c15 : u10.toInt ≤ 1
      · refine xi_cmt (pc' := 44) kc_58_20 rfl (xc_ge_t (X := 1) (Y := u10.toInt) (by decide) rfl (by omega)) ?_
        refine xi_iload_n (pc' := 45) (x := 3) kc_58_44 rfl rfl ?_
        refine xi_iconst (pc' := 46) (v := 1) kc_58_45 rfl rfl ?_
        refine xi_isub (pc' := 47) (v := 2) kc_58_46 rfl rfl ?_
        refine xi_istore_n (pc' := 48) (lv' := [(3, .int 2), (0, .ref 115), (1, .int 3), (2, .int x2)]) kc_58_47 rfl rfl (xm_lt ml_58 rfl) ?_
        have zc2 : (2 : Int32).toInt = 2 := by decide
        refine xw_lv (b := [(0, .ref 115), (2, .int x2), (3, .int 2)]) (lvS_cons (lvS_cons (lvS_cons (lvS_nil (show ([3, 0, 1, 2] : List Nat).Nodup by decide)) rfl) rfl) rfl) ?_
        exact i9 x2 2 h (by omega) (by omega) K (by omega)
      · refine xi_cmf (pc' := 23) kc_58_20 rfl (xc_ge_f (X := 1) (Y := u10.toInt) (by decide) rfl (by omega)) ?_
        refine xi_iload_n (pc' := 24) (x := x2) kc_58_23 rfl rfl ?_
        refine xi_iload_n (pc' := 25) (x := 3) kc_58_24 rfl rfl ?_
        refine xi_aload_n (pc' := 26) (x := 115) kc_58_25 rfl rfl ?_
        refine xi_getfield (pc' := 29) (v := .ref 154) kc_58_26 rfl rfl rfl A14 rfl ?_
        refine xi_iload_n (pc' := 30) (x := 1) kc_58_29 rfl rfl ?_
        refine xcps4 (xk_arr K.1 xD_154) (fun y16 A16 hy16 ry16 => ?_)
        refine xcps4 (xj_get hy16 ry16 (i := 1) (by decide) (by decide)) (fun v17 ev17 bv17 dv17 => ?_)
        refine xi_iaload (pc' := 31) (v := v17) kc_58_30 rfl A16 (by decide) rfl (xi_in (by decide) (by rw [hy16]; decide)) ev17 ?_
        refine xcps2 (α := Int32) (3 * v17) (fun v18 ev18 => ?_)
        have zv18 : v18.toInt = (3) * v17.toInt := by rw [← ev18]; exact (xz_mul (X := 3) (Y := v17.toInt) (by decide) rfl (by omega) (by omega)).trans (by omega)
        refine xi_imul (pc' := 32) (v := v18) kc_58_31 rfl ev18 ?_
        refine xcps2 (α := Int32) (x2 + v18) (fun v19 ev19 => ?_)
        have zv19 : v19.toInt = (x2.toInt + (3) * v17.toInt) := by rw [← ev19]; exact (xz_add (X := x2.toInt) (Y := (3) * v17.toInt) rfl zv18 (by omega) (by omega)).trans (by omega)
        refine xi_iadd (pc' := 33) (v := v19) kc_58_32 rfl ev19 ?_
        refine xi_istore_n (pc' := 34) (lv' := [(2, .int v19), (0, .ref 115), (1, .int 3), (3, .int 1)]) kc_58_33 rfl rfl (xm_lt ml_58 rfl) ?_
        refine xi_iload_n (pc' := 35) (x := 3) kc_58_34 rfl rfl ?_
        refine xi_iconst (pc' := 36) (v := 3) kc_58_35 rfl rfl ?_
        refine xi_imul (pc' := 37) (v := 9) kc_58_36 rfl rfl ?_
        refine xi_istore_n (pc' := 38) (lv' := [(1, .int 9), (2, .int v19), (0, .ref 115), (3, .int 1)]) kc_58_37 rfl rfl (xm_lt ml_58 rfl) ?_
        refine xi_iinc (pc' := 41) (x := 1) (v := 2) (lv' := [(3, .int 2), (1, .int 9), (2, .int v19), (0, .ref 115)]) kc_58_38 rfl rfl rfl rfl (xm_lt ml_58 rfl) ?_
        refine xi_goto (pc' := 15) kc_58_41 rfl ?_
        have zc2 : (2 : Int32).toInt = 2 := by decide
        have zc9 : (9 : Int32).toInt = 9 := by decide
        refine xw_lv (b := [(0, .ref 115), (1, .int 9), (2, .int v19), (3, .int 2)]) (lvS_cons (lvS_cons (lvS_cons (lvS_cons (lvS_nil (show ([3, 1, 2, 0] : List Nat).Nodup by decide)) rfl) rfl) rfl) rfl) ?_
        exact i2 v19 h (by omega) K (by omega)
    · intro x2 h b2 K hm
      refine xi_iload_n (pc' := 16) (x := 2) kc_58_15 rfl rfl ?_
      refine xi_aload_n (pc' := 17) (x := 115) kc_58_16 rfl rfl ?_
      refine xp_115 K.1 (fun u1 u2 u3 u4 u5 u6 u7 u8 u9 u10 u11 u12 u13 bu1 bu2 bu3 bu4 bu5 bu6 bu7 bu8 bu9 bu10 bu11 bu12 bu13 A14 => ?_)
      refine xi_getfield (pc' := 20) (v := .int u10) kc_58_17 rfl rfl rfl A14 rfl ?_
      by_cases c15 : u10.toInt ≤ 2
      · refine xi_cmt (pc' := 44) kc_58_20 rfl (xc_ge_t (X := 2) (Y := u10.toInt) (by decide) rfl (by omega)) ?_
        refine xi_iload_n (pc' := 45) (x := 9) kc_58_44 rfl rfl ?_
        refine xi_iconst (pc' := 46) (v := 1) kc_58_45 rfl rfl ?_
        refine xi_isub (pc' := 47) (v := 8) kc_58_46 rfl rfl ?_
        refine xi_istore_n (pc' := 48) (lv' := [(3, .int 8), (0, .ref 115), (1, .int 9), (2, .int x2)]) kc_58_47 rfl rfl (xm_lt ml_58 rfl) ?_
        have zc8 : (8 : Int32).toInt = 8 := by decide
        refine xw_lv (b := [(0, .ref 115), (2, .int x2), (3, .int 8)]) (lvS_cons (lvS_cons (lvS_cons (lvS_nil (show ([3, 0, 1, 2] : List Nat).Nodup by decide)) rfl) rfl) rfl) ?_
        exact i9 x2 8 h (by omega) (by omega) K (by omega)
      · refine xi_cmf (pc' := 23) kc_58_20 rfl (xc_ge_f (X := 2) (Y := u10.toInt) (by decide) rfl (by omega)) ?_
        refine xi_iload_n (pc' := 24) (x := x2) kc_58_23 rfl rfl ?_
        refine xi_iload_n (pc' := 25) (x := 9) kc_58_24 rfl rfl ?_
        refine xi_aload_n (pc' := 26) (x := 115) kc_58_25 rfl rfl ?_
        refine xi_getfield (pc' := 29) (v := .ref 154) kc_58_26 rfl rfl rfl A14 rfl ?_
        refine xi_iload_n (pc' := 30) (x := 2) kc_58_29 rfl rfl ?_
        refine xcps4 (xk_arr K.1 xD_154) (fun y16 A16 hy16 ry16 => ?_)
        refine xcps4 (xj_get hy16 ry16 (i := 2) (by decide) (by decide)) (fun v17 ev17 bv17 dv17 => ?_)
        refine xi_iaload (pc' := 31) (v := v17) kc_58_30 rfl A16 (by decide) rfl (xi_in (by decide) (by rw [hy16]; decide)) ev17 ?_
        refine xcps2 (α := Int32) (9 * v17) (fun v18 ev18 => ?_)
        have zv18 : v18.toInt = (9) * v17.toInt := by rw [← ev18]; exact (xz_mul (X := 9) (Y := v17.toInt) (by decide) rfl (by omega) (by omega)).trans (by omega)
        refine xi_imul (pc' := 32) (v := v18) kc_58_31 rfl ev18 ?_
        refine xcps2 (α := Int32) (x2 + v18) (fun v19 ev19 => ?_)
        have zv19 : v19.toInt = (x2.toInt + (9) * v17.toInt) := by rw [← ev19]; exact (xz_add (X := x2.toInt) (Y := (9) * v17.toInt) rfl zv18 (by omega) (by omega)).trans (by omega)
        refine xi_iadd (pc' := 33) (v := v19) kc_58_32 rfl ev19 ?_
        refine xi_istore_n (pc' := 34) (lv' := [(2, .int v19), (0, .ref 115), (1, .int 9), (3, .int 2)]) kc_58_33 rfl rfl (xm_lt ml_58 rfl) ?_
        refine xi_iload_n (pc' := 35) (x := 9) kc_58_34 rfl rfl ?_
        refine xi_iconst (pc' := 36) (v := 3) kc_58_35 rfl rfl ?_
        refine xi_imul (pc' := 37) (v := 27) kc_58_36 rfl rfl ?_
        refine xi_istore_n (pc' := 38) (lv' := [(1, .int 27), (2, .int v19), (0, .ref 115), (3, .int 2)]) kc_58_37 rfl rfl (xm_lt ml_58 rfl) ?_
        refine xi_iinc (pc' := 41) (x := 2) (v := 3) (lv' := [(3, .int 3), (1, .int 27), (2, .int v19), (0, .ref 115)]) kc_58_38 rfl rfl rfl rfl (xm_lt ml_58 rfl) ?_
        refine xi_goto (pc' := 15) kc_58_41 rfl ?_
        have zc3 : (3 : Int32).toInt = 3 := by decide
        have zc27 : (27 : Int32).toInt = 27 := by decide
        refine xw_lv (b := [(0, .ref 115), (1, .int 27), (2, .int v19), (3, .int 3)]) (lvS_cons (lvS_cons (lvS_cons (lvS_cons (lvS_nil (show ([3, 1, 2, 0] : List Nat).Nodup by decide)) rfl) rfl) rfl) rfl) ?_
        exact i3 v19 h (by omega) K (by omega)
    · intro x2 h b2 K hm
      refine xi_iload_n (pc' := 16) (x := 3) kc_58_15 rfl rfl ?_
      refine xi_aload_n (pc' := 17) (x := 115) kc_58_16 rfl rfl ?_
      refine xp_115 K.1 (fun u1 u2 u3 u4 u5 u6 u7 u8 u9 u10 u11 u12 u13 bu1 bu2 bu3 bu4 bu5 bu6 bu7 bu8 bu9 bu10 bu11 bu12 bu13 A14 => ?_)
      refine xi_getfield (pc' := 20) (v := .int u10) kc_58_17 rfl rfl rfl A14 rfl ?_
      by_cases c15 : u10.toInt ≤ 3
      · refine xi_cmt (pc' := 44) kc_58_20 rfl (xc_ge_t (X := 3) (Y := u10.toInt) (by decide) rfl (by omega)) ?_
        refine xi_iload_n (pc' := 45) (x := 27) kc_58_44 rfl rfl ?_
        refine xi_iconst (pc' := 46) (v := 1) kc_58_45 rfl rfl ?_
        refine xi_isub (pc' := 47) (v := 26) kc_58_46 rfl rfl ?_
        refine xi_istore_n (pc' := 48) (lv' := [(3, .int 26), (0, .ref 115), (1, .int 27), (2, .int x2)]) kc_58_47 rfl rfl (xm_lt ml_58 rfl) ?_
        have zc26 : (26 : Int32).toInt = 26 := by decide
        refine xw_lv (b := [(0, .ref 115), (2, .int x2), (3, .int 26)]) (lvS_cons (lvS_cons (lvS_cons (lvS_nil (show ([3, 0, 1, 2] : List Nat).Nodup by decide)) rfl) rfl) rfl) ?_
        exact i9 x2 26 h (by omega) (by omega) K (by omega)
      · refine xi_cmf (pc' := 23) kc_58_20 rfl (xc_ge_f (X := 3) (Y := u10.toInt) (by decide) rfl (by omega)) ?_
        refine xi_iload_n (pc' := 24) (x := x2) kc_58_23 rfl rfl ?_
        refine xi_iload_n (pc' := 25) (x := 27) kc_58_24 rfl rfl ?_
        refine xi_aload_n (pc' := 26) (x := 115) kc_58_25 rfl rfl ?_
        refine xi_getfield (pc' := 29) (v := .ref 154) kc_58_26 rfl rfl rfl A14 rfl ?_
        refine xi_iload_n (pc' := 30) (x := 3) kc_58_29 rfl rfl ?_
        refine xcps4 (xk_arr K.1 xD_154) (fun y16 A16 hy16 ry16 => ?_)
        refine xcps4 (xj_get hy16 ry16 (i := 3) (by decide) (by decide)) (fun v17 ev17 bv17 dv17 => ?_)
        refine xi_iaload (pc' := 31) (v := v17) kc_58_30 rfl A16 (by decide) rfl (xi_in (by decide) (by rw [hy16]; decide)) ev17 ?_
        refine xcps2 (α := Int32) (27 * v17) (fun v18 ev18 => ?_)
        have zv18 : v18.toInt = (27) * v17.toInt := by rw [← ev18]; exact (xz_mul (X := 27) (Y := v17.toInt) (by decide) rfl (by omega) (by omega)).trans (by omega)
        refine xi_imul (pc' := 32) (v := v18) kc_58_31 rfl ev18 ?_
        refine xcps2 (α := Int32) (x2 + v18) (fun v19 ev19 => ?_)
        have zv19 : v19.toInt = (x2.toInt + (27) * v17.toInt) := by rw [← ev19]; exact (xz_add (X := x2.toInt) (Y := (27) * v17.toInt) rfl zv18 (by omega) (by omega)).trans (by omega)
        refine xi_iadd (pc' := 33) (v := v19) kc_58_32 rfl ev19 ?_
        refine xi_istore_n (pc' := 34) (lv' := [(2, .int v19), (0, .ref 115), (1, .int 27), (3, .int 3)]) kc_58_33 rfl rfl (xm_lt ml_58 rfl) ?_
        refine xi_iload_n (pc' := 35) (x := 27) kc_58_34 rfl rfl ?_
        refine xi_iconst (pc' := 36) (v := 3) kc_58_35 rfl rfl ?_
        refine xi_imul (pc' := 37) (v := 81) kc_58_36 rfl rfl ?_
        refine xi_istore_n (pc' := 38) (lv' := [(1, .int 81), (2, .int v19), (0, .ref 115), (3, .int 3)]) kc_58_37 rfl rfl (xm_lt ml_58 rfl) ?_
        refine xi_iinc (pc' := 41) (x := 3) (v := 4) (lv' := [(3, .int 4), (1, .int 81), (2, .int v19), (0, .ref 115)]) kc_58_38 rfl rfl rfl rfl (xm_lt ml_58 rfl) ?_
        refine xi_goto (pc' := 15) kc_58_41 rfl ?_
        have zc4 : (4 : Int32).toInt = 4 := by decide
        have zc81 : (81 : Int32).toInt = 81 := by decide
        refine xw_lv (b := [(0, .ref 115), (1, .int 81), (2, .int v19), (3, .int 4)]) (lvS_cons (lvS_cons (lvS_cons (lvS_cons (lvS_nil (show ([3, 1, 2, 0] : List Nat).Nodup by decide)) rfl) rfl) rfl) rfl) ?_
        exact i4 v19 h (by omega) K (by omega)
    · intro x2 h b2 K hm
      refine xi_iload_n (pc' := 16) (x := 4) kc_58_15 rfl rfl ?_
      refine xi_aload_n (pc' := 17) (x := 115) kc_58_16 rfl rfl ?_
      refine xp_115 K.1 (fun u1 u2 u3 u4 u5 u6 u7 u8 u9 u10 u11 u12 u13 bu1 bu2 bu3 bu4 bu5 bu6 bu7 bu8 bu9 bu10 bu11 bu12 bu13 A14 => ?_)
      refine xi_getfield (pc' := 20) (v := .int u10) kc_58_17 rfl rfl rfl A14 rfl ?_
      by_cases c15 : u10.toInt ≤ 4
      · refine xi_cmt (pc' := 44) kc_58_20 rfl (xc_ge_t (X := 4) (Y := u10.toInt) (by decide) rfl (by omega)) ?_
        refine xi_iload_n (pc' := 45) (x := 81) kc_58_44 rfl rfl ?_
        refine xi_iconst (pc' := 46) (v := 1) kc_58_45 rfl rfl ?_
        refine xi_isub (pc' := 47) (v := 80) kc_58_46 rfl rfl ?_
        refine xi_istore_n (pc' := 48) (lv' := [(3, .int 80), (0, .ref 115), (1, .int 81), (2, .int x2)]) kc_58_47 rfl rfl (xm_lt ml_58 rfl) ?_
        have zc80 : (80 : Int32).toInt = 80 := by decide
        refine xw_lv (b := [(0, .ref 115), (2, .int x2), (3, .int 80)]) (lvS_cons (lvS_cons (lvS_cons (lvS_nil (show ([3, 0, 1, 2] : List Nat).Nodup by decide)) rfl) rfl) rfl) ?_
        exact i9 x2 80 h (by omega) (by omega) K (by omega)
      · refine xi_cmf (pc' := 23) kc_58_20 rfl (xc_ge_f (X := 4) (Y := u10.toInt) (by decide) rfl (by omega)) ?_
        refine xi_iload_n (pc' := 24) (x := x2) kc_58_23 rfl rfl ?_
        refine xi_iload_n (pc' := 25) (x := 81) kc_58_24 rfl rfl ?_
        refine xi_aload_n (pc' := 26) (x := 115) kc_58_25 rfl rfl ?_
        refine xi_getfield (pc' := 29) (v := .ref 154) kc_58_26 rfl rfl rfl A14 rfl ?_
        refine xi_iload_n (pc' := 30) (x := 4) kc_58_29 rfl rfl ?_
        refine xcps4 (xk_arr K.1 xD_154) (fun y16 A16 hy16 ry16 => ?_)
        refine xcps4 (xj_get hy16 ry16 (i := 4) (by decide) (by decide)) (fun v17 ev17 bv17 dv17 => ?_)
        refine xi_iaload (pc' := 31) (v := v17) kc_58_30 rfl A16 (by decide) rfl (xi_in (by decide) (by rw [hy16]; decide)) ev17 ?_
        refine xcps2 (α := Int32) (81 * v17) (fun v18 ev18 => ?_)
        have zv18 : v18.toInt = (81) * v17.toInt := by rw [← ev18]; exact (xz_mul (X := 81) (Y := v17.toInt) (by decide) rfl (by omega) (by omega)).trans (by omega)
        refine xi_imul (pc' := 32) (v := v18) kc_58_31 rfl ev18 ?_
        refine xcps2 (α := Int32) (x2 + v18) (fun v19 ev19 => ?_)
        have zv19 : v19.toInt = (x2.toInt + (81) * v17.toInt) := by rw [← ev19]; exact (xz_add (X := x2.toInt) (Y := (81) * v17.toInt) rfl zv18 (by omega) (by omega)).trans (by omega)
        refine xi_iadd (pc' := 33) (v := v19) kc_58_32 rfl ev19 ?_
        refine xi_istore_n (pc' := 34) (lv' := [(2, .int v19), (0, .ref 115), (1, .int 81), (3, .int 4)]) kc_58_33 rfl rfl (xm_lt ml_58 rfl) ?_
        refine xi_iload_n (pc' := 35) (x := 81) kc_58_34 rfl rfl ?_
        refine xi_iconst (pc' := 36) (v := 3) kc_58_35 rfl rfl ?_
        refine xi_imul (pc' := 37) (v := 243) kc_58_36 rfl rfl ?_
        refine xi_istore_n (pc' := 38) (lv' := [(1, .int 243), (2, .int v19), (0, .ref 115), (3, .int 4)]) kc_58_37 rfl rfl (xm_lt ml_58 rfl) ?_
        refine xi_iinc (pc' := 41) (x := 4) (v := 5) (lv' := [(3, .int 5), (1, .int 243), (2, .int v19), (0, .ref 115)]) kc_58_38 rfl rfl rfl rfl (xm_lt ml_58 rfl) ?_
        refine xi_goto (pc' := 15) kc_58_41 rfl ?_
        have zc5 : (5 : Int32).toInt = 5 := by decide
        have zc243 : (243 : Int32).toInt = 243 := by decide
        refine xw_lv (b := [(0, .ref 115), (1, .int 243), (2, .int v19), (3, .int 5)]) (lvS_cons (lvS_cons (lvS_cons (lvS_cons (lvS_nil (show ([3, 1, 2, 0] : List Nat).Nodup by decide)) rfl) rfl) rfl) rfl) ?_
        exact i5 v19 h (by omega) K (by omega)
    · intro x2 h b2 K hm
      refine xi_iload_n (pc' := 16) (x := 5) kc_58_15 rfl rfl ?_
      refine xi_aload_n (pc' := 17) (x := 115) kc_58_16 rfl rfl ?_
      refine xp_115 K.1 (fun u1 u2 u3 u4 u5 u6 u7 u8 u9 u10 u11 u12 u13 bu1 bu2 bu3 bu4 bu5 bu6 bu7 bu8 bu9 bu10 bu11 bu12 bu13 A14 => ?_)
      refine xi_getfield (pc' := 20) (v := .int u10) kc_58_17 rfl rfl rfl A14 rfl ?_
      by_cases c15 : u10.toInt ≤ 5
      · refine xi_cmt (pc' := 44) kc_58_20 rfl (xc_ge_t (X := 5) (Y := u10.toInt) (by decide) rfl (by omega)) ?_
        refine xi_iload_n (pc' := 45) (x := 243) kc_58_44 rfl rfl ?_
        refine xi_iconst (pc' := 46) (v := 1) kc_58_45 rfl rfl ?_
        refine xi_isub (pc' := 47) (v := 242) kc_58_46 rfl rfl ?_
        refine xi_istore_n (pc' := 48) (lv' := [(3, .int 242), (0, .ref 115), (1, .int 243), (2, .int x2)]) kc_58_47 rfl rfl (xm_lt ml_58 rfl) ?_
        have zc242 : (242 : Int32).toInt = 242 := by decide
        refine xw_lv (b := [(0, .ref 115), (2, .int x2), (3, .int 242)]) (lvS_cons (lvS_cons (lvS_cons (lvS_nil (show ([3, 0, 1, 2] : List Nat).Nodup by decide)) rfl) rfl) rfl) ?_
        exact i9 x2 242 h (by omega) (by omega) K (by omega)
      · refine xi_cmf (pc' := 23) kc_58_20 rfl (xc_ge_f (X := 5) (Y := u10.toInt) (by decide) rfl (by omega)) ?_
        refine xi_iload_n (pc' := 24) (x := x2) kc_58_23 rfl rfl ?_
        refine xi_iload_n (pc' := 25) (x := 243) kc_58_24 rfl rfl ?_
        refine xi_aload_n (pc' := 26) (x := 115) kc_58_25 rfl rfl ?_
        refine xi_getfield (pc' := 29) (v := .ref 154) kc_58_26 rfl rfl rfl A14 rfl ?_
        refine xi_iload_n (pc' := 30) (x := 5) kc_58_29 rfl rfl ?_
        refine xcps4 (xk_arr K.1 xD_154) (fun y16 A16 hy16 ry16 => ?_)
        refine xcps4 (xj_get hy16 ry16 (i := 5) (by decide) (by decide)) (fun v17 ev17 bv17 dv17 => ?_)
        refine xi_iaload (pc' := 31) (v := v17) kc_58_30 rfl A16 (by decide) rfl (xi_in (by decide) (by rw [hy16]; decide)) ev17 ?_
        refine xcps2 (α := Int32) (243 * v17) (fun v18 ev18 => ?_)
        have zv18 : v18.toInt = (243) * v17.toInt := by rw [← ev18]; exact (xz_mul (X := 243) (Y := v17.toInt) (by decide) rfl (by omega) (by omega)).trans (by omega)
        refine xi_imul (pc' := 32) (v := v18) kc_58_31 rfl ev18 ?_
        refine xcps2 (α := Int32) (x2 + v18) (fun v19 ev19 => ?_)
        have zv19 : v19.toInt = (x2.toInt + (243) * v17.toInt) := by rw [← ev19]; exact (xz_add (X := x2.toInt) (Y := (243) * v17.toInt) rfl zv18 (by omega) (by omega)).trans (by omega)
        refine xi_iadd (pc' := 33) (v := v19) kc_58_32 rfl ev19 ?_
        refine xi_istore_n (pc' := 34) (lv' := [(2, .int v19), (0, .ref 115), (1, .int 243), (3, .int 5)]) kc_58_33 rfl rfl (xm_lt ml_58 rfl) ?_
        refine xi_iload_n (pc' := 35) (x := 243) kc_58_34 rfl rfl ?_
        refine xi_iconst (pc' := 36) (v := 3) kc_58_35 rfl rfl ?_
        refine xi_imul (pc' := 37) (v := 729) kc_58_36 rfl rfl ?_
        refine xi_istore_n (pc' := 38) (lv' := [(1, .int 729), (2, .int v19), (0, .ref 115), (3, .int 5)]) kc_58_37 rfl rfl (xm_lt ml_58 rfl) ?_
        refine xi_iinc (pc' := 41) (x := 5) (v := 6) (lv' := [(3, .int 6), (1, .int 729), (2, .int v19), (0, .ref 115)]) kc_58_38 rfl rfl rfl rfl (xm_lt ml_58 rfl) ?_
        refine xi_goto (pc' := 15) kc_58_41 rfl ?_
        have zc6 : (6 : Int32).toInt = 6 := by decide
        have zc729 : (729 : Int32).toInt = 729 := by decide
        refine xw_lv (b := [(0, .ref 115), (1, .int 729), (2, .int v19), (3, .int 6)]) (lvS_cons (lvS_cons (lvS_cons (lvS_cons (lvS_nil (show ([3, 1, 2, 0] : List Nat).Nodup by decide)) rfl) rfl) rfl) rfl) ?_
        exact i6 v19 h (by omega) K (by omega)
    · intro x2 h b2 K hm
      refine xi_iload_n (pc' := 16) (x := 6) kc_58_15 rfl rfl ?_
      refine xi_aload_n (pc' := 17) (x := 115) kc_58_16 rfl rfl ?_
      refine xp_115 K.1 (fun u1 u2 u3 u4 u5 u6 u7 u8 u9 u10 u11 u12 u13 bu1 bu2 bu3 bu4 bu5 bu6 bu7 bu8 bu9 bu10 bu11 bu12 bu13 A14 => ?_)
      refine xi_getfield (pc' := 20) (v := .int u10) kc_58_17 rfl rfl rfl A14 rfl ?_
      by_cases c15 : u10.toInt ≤ 6
      · refine xi_cmt (pc' := 44) kc_58_20 rfl (xc_ge_t (X := 6) (Y := u10.toInt) (by decide) rfl (by omega)) ?_
        refine xi_iload_n (pc' := 45) (x := 729) kc_58_44 rfl rfl ?_
        refine xi_iconst (pc' := 46) (v := 1) kc_58_45 rfl rfl ?_
        refine xi_isub (pc' := 47) (v := 728) kc_58_46 rfl rfl ?_
        refine xi_istore_n (pc' := 48) (lv' := [(3, .int 728), (0, .ref 115), (1, .int 729), (2, .int x2)]) kc_58_47 rfl rfl (xm_lt ml_58 rfl) ?_
        have zc728 : (728 : Int32).toInt = 728 := by decide
        refine xw_lv (b := [(0, .ref 115), (2, .int x2), (3, .int 728)]) (lvS_cons (lvS_cons (lvS_cons (lvS_nil (show ([3, 0, 1, 2] : List Nat).Nodup by decide)) rfl) rfl) rfl) ?_
        exact i9 x2 728 h (by omega) (by omega) K (by omega)
      · refine xi_cmf (pc' := 23) kc_58_20 rfl (xc_ge_f (X := 6) (Y := u10.toInt) (by decide) rfl (by omega)) ?_
        refine xi_iload_n (pc' := 24) (x := x2) kc_58_23 rfl rfl ?_
        refine xi_iload_n (pc' := 25) (x := 729) kc_58_24 rfl rfl ?_
        refine xi_aload_n (pc' := 26) (x := 115) kc_58_25 rfl rfl ?_
        refine xi_getfield (pc' := 29) (v := .ref 154) kc_58_26 rfl rfl rfl A14 rfl ?_
        refine xi_iload_n (pc' := 30) (x := 6) kc_58_29 rfl rfl ?_
        refine xcps4 (xk_arr K.1 xD_154) (fun y16 A16 hy16 ry16 => ?_)
        refine xcps4 (xj_get hy16 ry16 (i := 6) (by decide) (by decide)) (fun v17 ev17 bv17 dv17 => ?_)
        refine xi_iaload (pc' := 31) (v := v17) kc_58_30 rfl A16 (by decide) rfl (xi_in (by decide) (by rw [hy16]; decide)) ev17 ?_
        refine xcps2 (α := Int32) (729 * v17) (fun v18 ev18 => ?_)
        have zv18 : v18.toInt = (729) * v17.toInt := by rw [← ev18]; exact (xz_mul (X := 729) (Y := v17.toInt) (by decide) rfl (by omega) (by omega)).trans (by omega)
        refine xi_imul (pc' := 32) (v := v18) kc_58_31 rfl ev18 ?_
        refine xcps2 (α := Int32) (x2 + v18) (fun v19 ev19 => ?_)
        have zv19 : v19.toInt = (x2.toInt + (729) * v17.toInt) := by rw [← ev19]; exact (xz_add (X := x2.toInt) (Y := (729) * v17.toInt) rfl zv18 (by omega) (by omega)).trans (by omega)
        refine xi_iadd (pc' := 33) (v := v19) kc_58_32 rfl ev19 ?_
        refine xi_istore_n (pc' := 34) (lv' := [(2, .int v19), (0, .ref 115), (1, .int 729), (3, .int 6)]) kc_58_33 rfl rfl (xm_lt ml_58 rfl) ?_
        refine xi_iload_n (pc' := 35) (x := 729) kc_58_34 rfl rfl ?_
        refine xi_iconst (pc' := 36) (v := 3) kc_58_35 rfl rfl ?_
        refine xi_imul (pc' := 37) (v := 2187) kc_58_36 rfl rfl ?_
        refine xi_istore_n (pc' := 38) (lv' := [(1, .int 2187), (2, .int v19), (0, .ref 115), (3, .int 6)]) kc_58_37 rfl rfl (xm_lt ml_58 rfl) ?_
        refine xi_iinc (pc' := 41) (x := 6) (v := 7) (lv' := [(3, .int 7), (1, .int 2187), (2, .int v19), (0, .ref 115)]) kc_58_38 rfl rfl rfl rfl (xm_lt ml_58 rfl) ?_
        refine xi_goto (pc' := 15) kc_58_41 rfl ?_
        have zc7 : (7 : Int32).toInt = 7 := by decide
        have zc2187 : (2187 : Int32).toInt = 2187 := by decide
        refine xw_lv (b := [(0, .ref 115), (1, .int 2187), (2, .int v19), (3, .int 7)]) (lvS_cons (lvS_cons (lvS_cons (lvS_cons (lvS_nil (show ([3, 1, 2, 0] : List Nat).Nodup by decide)) rfl) rfl) rfl) rfl) ?_
        exact i7 v19 h (by omega) K (by omega)
    · intro x2 h b2 K hm
      refine xi_iload_n (pc' := 16) (x := 7) kc_58_15 rfl rfl ?_
      refine xi_aload_n (pc' := 17) (x := 115) kc_58_16 rfl rfl ?_
      refine xp_115 K.1 (fun u1 u2 u3 u4 u5 u6 u7 u8 u9 u10 u11 u12 u13 bu1 bu2 bu3 bu4 bu5 bu6 bu7 bu8 bu9 bu10 bu11 bu12 bu13 A14 => ?_)
      refine xi_getfield (pc' := 20) (v := .int u10) kc_58_17 rfl rfl rfl A14 rfl ?_
      by_cases c15 : u10.toInt ≤ 7
      · refine xi_cmt (pc' := 44) kc_58_20 rfl (xc_ge_t (X := 7) (Y := u10.toInt) (by decide) rfl (by omega)) ?_
        refine xi_iload_n (pc' := 45) (x := 2187) kc_58_44 rfl rfl ?_
        refine xi_iconst (pc' := 46) (v := 1) kc_58_45 rfl rfl ?_
        refine xi_isub (pc' := 47) (v := 2186) kc_58_46 rfl rfl ?_
        refine xi_istore_n (pc' := 48) (lv' := [(3, .int 2186), (0, .ref 115), (1, .int 2187), (2, .int x2)]) kc_58_47 rfl rfl (xm_lt ml_58 rfl) ?_
        have zc2186 : (2186 : Int32).toInt = 2186 := by decide
        refine xw_lv (b := [(0, .ref 115), (2, .int x2), (3, .int 2186)]) (lvS_cons (lvS_cons (lvS_cons (lvS_nil (show ([3, 0, 1, 2] : List Nat).Nodup by decide)) rfl) rfl) rfl) ?_
        exact i9 x2 2186 h (by omega) (by omega) K (by omega)
      · refine xi_cmf (pc' := 23) kc_58_20 rfl (xc_ge_f (X := 7) (Y := u10.toInt) (by decide) rfl (by omega)) ?_
        refine xi_iload_n (pc' := 24) (x := x2) kc_58_23 rfl rfl ?_
        refine xi_iload_n (pc' := 25) (x := 2187) kc_58_24 rfl rfl ?_
        refine xi_aload_n (pc' := 26) (x := 115) kc_58_25 rfl rfl ?_
        refine xi_getfield (pc' := 29) (v := .ref 154) kc_58_26 rfl rfl rfl A14 rfl ?_
        refine xi_iload_n (pc' := 30) (x := 7) kc_58_29 rfl rfl ?_
        refine xcps4 (xk_arr K.1 xD_154) (fun y16 A16 hy16 ry16 => ?_)
        refine xcps4 (xj_get hy16 ry16 (i := 7) (by decide) (by decide)) (fun v17 ev17 bv17 dv17 => ?_)
        refine xi_iaload (pc' := 31) (v := v17) kc_58_30 rfl A16 (by decide) rfl (xi_in (by decide) (by rw [hy16]; decide)) ev17 ?_
        refine xcps2 (α := Int32) (2187 * v17) (fun v18 ev18 => ?_)
        have zv18 : v18.toInt = (2187) * v17.toInt := by rw [← ev18]; exact (xz_mul (X := 2187) (Y := v17.toInt) (by decide) rfl (by omega) (by omega)).trans (by omega)
        refine xi_imul (pc' := 32) (v := v18) kc_58_31 rfl ev18 ?_
        refine xcps2 (α := Int32) (x2 + v18) (fun v19 ev19 => ?_)
        have zv19 : v19.toInt = (x2.toInt + (2187) * v17.toInt) := by rw [← ev19]; exact (xz_add (X := x2.toInt) (Y := (2187) * v17.toInt) rfl zv18 (by omega) (by omega)).trans (by omega)
        refine xi_iadd (pc' := 33) (v := v19) kc_58_32 rfl ev19 ?_
        refine xi_istore_n (pc' := 34) (lv' := [(2, .int v19), (0, .ref 115), (1, .int 2187), (3, .int 7)]) kc_58_33 rfl rfl (xm_lt ml_58 rfl) ?_
        refine xi_iload_n (pc' := 35) (x := 2187) kc_58_34 rfl rfl ?_
        refine xi_iconst (pc' := 36) (v := 3) kc_58_35 rfl rfl ?_
        refine xi_imul (pc' := 37) (v := 6561) kc_58_36 rfl rfl ?_
        refine xi_istore_n (pc' := 38) (lv' := [(1, .int 6561), (2, .int v19), (0, .ref 115), (3, .int 7)]) kc_58_37 rfl rfl (xm_lt ml_58 rfl) ?_
        refine xi_iinc (pc' := 41) (x := 7) (v := 8) (lv' := [(3, .int 8), (1, .int 6561), (2, .int v19), (0, .ref 115)]) kc_58_38 rfl rfl rfl rfl (xm_lt ml_58 rfl) ?_
        refine xi_goto (pc' := 15) kc_58_41 rfl ?_
        have zc8 : (8 : Int32).toInt = 8 := by decide
        have zc6561 : (6561 : Int32).toInt = 6561 := by decide
        refine xw_lv (b := [(0, .ref 115), (1, .int 6561), (2, .int v19), (3, .int 8)]) (lvS_cons (lvS_cons (lvS_cons (lvS_cons (lvS_nil (show ([3, 1, 2, 0] : List Nat).Nodup by decide)) rfl) rfl) rfl) rfl) ?_
        exact i8 v19 h (by omega) K (by omega)
    · intro x2 h b2 K hm
      refine xi_iload_n (pc' := 16) (x := 8) kc_58_15 rfl rfl ?_
      refine xi_aload_n (pc' := 17) (x := 115) kc_58_16 rfl rfl ?_
      refine xp_115 K.1 (fun u1 u2 u3 u4 u5 u6 u7 u8 u9 u10 u11 u12 u13 bu1 bu2 bu3 bu4 bu5 bu6 bu7 bu8 bu9 bu10 bu11 bu12 bu13 A14 => ?_)
      refine xi_getfield (pc' := 20) (v := .int u10) kc_58_17 rfl rfl rfl A14 rfl ?_
      refine xi_cmt (pc' := 44) kc_58_20 rfl (xc_ge_t (X := 8) (Y := u10.toInt) (by decide) rfl (by omega)) ?_
      refine xi_iload_n (pc' := 45) (x := 6561) kc_58_44 rfl rfl ?_
      refine xi_iconst (pc' := 46) (v := 1) kc_58_45 rfl rfl ?_
      refine xi_isub (pc' := 47) (v := 6560) kc_58_46 rfl rfl ?_
      refine xi_istore_n (pc' := 48) (lv' := [(3, .int 6560), (0, .ref 115), (1, .int 6561), (2, .int x2)]) kc_58_47 rfl rfl (xm_lt ml_58 rfl) ?_
      have zc6560 : (6560 : Int32).toInt = 6560 := by decide
      refine xw_lv (b := [(0, .ref 115), (2, .int x2), (3, .int 6560)]) (lvS_cons (lvS_cons (lvS_cons (lvS_nil (show ([3, 0, 1, 2] : List Nat).Nodup by decide)) rfl) rfl) rfl) ?_
      exact i9 x2 6560 h (by omega) (by omega) K (by omega)
    · intro x2 x3 h b2 b3 K hm
      refine xi_iload_n (pc' := 49) (x := x3) kc_58_48 rfl rfl ?_
      refine xi_iload_n (pc' := 50) (x := x2) kc_58_49 rfl rfl ?_
      by_cases c1 : x3.toInt < x2.toInt
      · refine xi_cmt (pc' := 194) kc_58_50 rfl (xc_lt_t (X := x3.toInt) (Y := x2.toInt) rfl rfl (by omega)) ?_
        refine xi_aload_n (pc' := 195) (x := 115) kc_58_194 rfl rfl ?_
        refine xp_115 K.1 (fun u2 u3 u4 u5 u6 u7 u8 u9 u10 u11 u12 u13 u14 bu2 bu3 bu4 bu5 bu6 bu7 bu8 bu9 bu10 bu11 bu12 bu13 bu14 A15 => ?_)
        refine xi_getfield (pc' := 198) (v := .ref 155) kc_58_195 rfl rfl rfl A15 rfl ?_
        refine xi_iload_n (pc' := 199) (x := x2) kc_58_198 rfl rfl ?_
        refine xcps4 (xk_arr K.1 xD_155) (fun y16 A16 hy16 ry16 => ?_)
        refine xcps4 (xj_get hy16 ry16 (i := x2) (by omega) (by omega)) (fun v17 ev17 bv17 dv17 => ?_)
        refine xi_iaload (pc' := 200) (v := v17) kc_58_199 rfl A16 (by decide) rfl (xi_in (by omega) (by rw [hy16]; omega)) ev17 ?_
        refine xi_ireturn kc_58_200 mr_58 rfl ?_
        exact kk v17 h K
      · refine xi_cmf (pc' := 53) kc_58_50 rfl (xc_lt_f (X := x3.toInt) (Y := x2.toInt) rfl rfl (by omega)) ?_
        refine xi_iconst (pc' := 54) (v := (-1)) kc_58_53 rfl rfl ?_
        refine xi_istore (pc' := 56) (lv' := [(4, .int (-1)), (0, .ref 115), (2, .int x2), (3, .int x3)]) kc_58_54 rfl rfl (xm_lt ml_58 rfl) ?_
        refine xi_iconst (pc' := 57) (v := 1) kc_58_56 rfl rfl ?_
        refine xi_istore (pc' := 59) (lv' := [(5, .int 1), (4, .int (-1)), (0, .ref 115), (2, .int x2), (3, .int x3)]) kc_58_57 rfl rfl (xm_lt ml_58 rfl) ?_
        refine xi_iconst (pc' := 60) (v := 0) kc_58_59 rfl rfl ?_
        refine xi_istore (pc' := 62) (lv' := [(6, .int 0), (5, .int 1), (4, .int (-1)), (0, .ref 115), (2, .int x2), (3, .int x3)]) kc_58_60 rfl rfl (xm_lt ml_58 rfl) ?_
        have zcm1 : ((-1) : Int32).toInt = (-1) := by decide
        have zc0 : (0 : Int32).toInt = 0 := by decide
        have zc1 : (1 : Int32).toInt = 1 := by decide
        refine xw_lv (b := [(0, .ref 115), (2, .int x2), (3, .int x3), (4, .int (-1)), (5, .int 1), (6, .int 0)]) (lvS_cons (lvS_cons (lvS_cons (lvS_cons (lvS_cons (lvS_cons (lvS_nil (show ([6, 5, 4, 0, 2, 3] : List Nat).Nodup by decide)) rfl) rfl) rfl) rfl) rfl) rfl) ?_
        exact i10 x2 x3 (-1) h (by omega) (by omega) (by omega) K (by omega)
    · intro x2 x3 x4 h b2 b3 b4 K hm
      refine xi_iload (pc' := 64) (x := 0) kc_58_62 rfl rfl ?_
      refine xi_aload_n (pc' := 65) (x := 115) kc_58_64 rfl rfl ?_
      refine xp_115 K.1 (fun u1 u2 u3 u4 u5 u6 u7 u8 u9 u10 u11 u12 u13 bu1 bu2 bu3 bu4 bu5 bu6 bu7 bu8 bu9 bu10 bu11 bu12 bu13 A14 => ?_)
      refine xi_getfield (pc' := 68) (v := .int u10) kc_58_65 rfl rfl rfl A14 rfl ?_
      by_cases c15 : u10.toInt ≤ 0
      · refine xi_cmt (pc' := 171) kc_58_68 rfl (xc_ge_t (X := 0) (Y := u10.toInt) (by decide) rfl (by omega)) ?_
        refine xi_aload_n (pc' := 172) (x := 115) kc_58_171 rfl rfl ?_
        refine xi_getfield (pc' := 175) (v := .ref 155) kc_58_172 rfl rfl rfl A14 rfl ?_
        refine xi_iload_n (pc' := 176) (x := x3) kc_58_175 rfl rfl ?_
        refine xi_iload (pc' := 178) (x := x4) kc_58_176 rfl rfl ?_
        refine xi_iff (pc' := 181) kc_58_178 rfl (xc_ge_f (X := x4.toInt) (Y := 0) rfl (by decide) (by omega)) ?_
        refine xi_iconst (pc' := 182) (v := 0) kc_58_181 rfl rfl ?_
        refine xi_goto (pc' := 187) kc_58_182 rfl ?_
        refine xcps4 (xk_arr K.1 xD_155) (fun y16 A16 hy16 ry16 => ?_)
        refine xcps4 (xj_set (v := 0) hy16 ry16 x3 (by first | omega | decide) (by first | omega | decide)) (fun y17 s17 hy17 ry17 => ?_)
        refine xi_iastore (pc' := 188) (x' := y17) kc_58_187 rfl A16 rfl (xi_in (by omega) (by rw [hy16]; omega)) s17 (fun hh17 eh17 => ?_)
        have K18 := xk_pa K (xk_wa rfl) xD_155 hy17 ry17 eh17
        refine xcps2 (α := Int32) (x3 + (-1)) (fun v19 ev19 => ?_)
        have zv19 : v19.toInt = (x3.toInt + (-1)) := by rw [← ev19]; exact (xz_add (X := x3.toInt) (Y := (-1)) rfl (by decide) (by omega) (by omega)).trans (by omega)
        refine xi_iinc (pc' := 191) (x := x3) (v := v19) (lv' := [(3, .int v19), (0, .ref 115), (2, .int x2), (4, .int x4), (5, .int 1), (6, .int 0)]) kc_58_188 rfl rfl ev19 rfl (xm_lt ml_58 rfl) ?_
        refine xi_goto (pc' := 48) kc_58_191 rfl ?_
        refine xw_lv (b := [(0, .ref 115), (2, .int x2), (3, .int v19)]) (lvS_cons (lvS_cons (lvS_cons (lvS_nil (show ([3, 0, 2, 4, 5, 6] : List Nat).Nodup by decide)) rfl) rfl) rfl) ?_
        exact i9 x2 v19 hh17 (by omega) (by omega) K18 (by omega)
      · refine xi_cmf (pc' := 71) kc_58_68 rfl (xc_ge_f (X := 0) (Y := u10.toInt) (by decide) rfl (by omega)) ?_
        refine xi_iload_n (pc' := 72) (x := x3) kc_58_71 rfl rfl ?_
        refine xi_iload (pc' := 74) (x := 1) kc_58_72 rfl rfl ?_
        refine xcps2 (α := Int32) (x3 / 1) (fun v20 ev20 => ?_)
        have dv20 : v20.toInt = x3.toInt / 1 := by rw [← ev20]; exact xz_dive (X := x3.toInt) (Y := 1) rfl (by decide) (by omega) (by decide)
        have bv20 : 0 ≤ v20.toInt ∧ v20.toInt ≤ 6560 := by omega
        refine xi_idiv (pc' := 75) (v := v20) kc_58_74 rfl ev20 (by decide) ?_
        refine xi_iconst (pc' := 76) (v := 3) kc_58_75 rfl rfl ?_
        refine xcps2 (α := Int32) (v20 - v20 / 3 * 3) (fun v21 ev21 => ?_)
        have dv21 : v21.toInt = v20.toInt % 3 := by rw [← ev21]; exact xz_reme (X := v20.toInt) (Y := 3) rfl (by decide) (by omega) (by decide)
        have bv21 : 0 ≤ v21.toInt ∧ v21.toInt ≤ 2 := by omega
        refine xi_irem (pc' := 77) (v := v21) kc_58_76 rfl ev21 (by decide) ?_
        by_cases c22 : v21.toInt = 0
        · refine xi_iff (pc' := 80) kc_58_77 rfl (xc_ne_f (X := v21.toInt) (Y := 0) rfl (by decide) (by omega)) ?_
          refine xi_aload_n (pc' := 81) (x := 115) kc_58_80 rfl rfl ?_
          refine xi_iload_n (pc' := 82) (x := x3) kc_58_81 rfl rfl ?_
          refine xi_iload (pc' := 84) (x := 0) kc_58_82 rfl rfl ?_
          refine xi_virtual (mj := 59) (as := [.int x3, .int 0]) (st1 := []) (lv0 := [(0, .ref 115), (1, .int x3), (2, .int 0)]) kc_58_84 rfl rfl rfl rfl rfl A14 (Nat.le_of_ble_eq_true rfl) (hJ _ _ _ _ (by decide)) (xm_le ml_59 rfl) rfl ?_
          have zc0 : (0 : Int32).toInt = 0 := by decide
          refine mt_59_0 hJ hov1 hov2 (d := d + 3) (x1 := x3) (x2 := 0) K.1 (by first | omega | decide) (by first | omega | decide) (fun r23 hh24 br23 K25 => ?_)
          have K26 := xk_tr K K25 rfl
          refine xp_115 K26.1 (fun u27 u28 u29 u30 u31 u32 u33 u34 u35 u36 u37 u38 u39 bu27 bu28 bu29 bu30 bu31 bu32 bu33 bu34 bu35 bu36 bu37 bu38 bu39 A40 => ?_)
          have e41 : u2 = u28 := xk_eqi (q := 1) K25 rfl A14 A40 rfl rfl
          subst e41
          have e42 : u4 = u30 := xk_eqi (q := 18) K25 rfl A14 A40 rfl rfl
          subst e42
          show xw J ov (d + 7) 58 (87, [(0, .ref 115), (2, .int x2), (3, .int x3), (4, .int x4), (5, .int 1), (6, .int 0)], [.int r23], hh24) _
          by_cases c43 : r23.toInt = 0
          · refine xi_ift (pc' := 159) kc_58_87 rfl (xc_eq_t (X := r23.toInt) (Y := 0) rfl (by decide) (by omega)) ?_
            refine xi_iload (pc' := 161) (x := 1) kc_58_159 rfl rfl ?_
            refine xi_iconst (pc' := 162) (v := 3) kc_58_161 rfl rfl ?_
            refine xi_imul (pc' := 163) (v := 3) kc_58_162 rfl rfl ?_
            refine xi_istore (pc' := 165) (lv' := [(5, .int 3), (0, .ref 115), (2, .int x2), (3, .int x3), (4, .int x4), (6, .int 0)]) kc_58_163 rfl rfl (xm_lt ml_58 rfl) ?_
            refine xi_iinc (pc' := 168) (x := 0) (v := 1) (lv' := [(6, .int 1), (5, .int 3), (0, .ref 115), (2, .int x2), (3, .int x3), (4, .int x4)]) kc_58_165 rfl rfl rfl rfl (xm_lt ml_58 rfl) ?_
            refine xi_goto (pc' := 62) kc_58_168 rfl ?_
            have zc1 : (1 : Int32).toInt = 1 := by decide
            have zc3 : (3 : Int32).toInt = 3 := by decide
            refine xw_lv (b := [(0, .ref 115), (2, .int x2), (3, .int x3), (4, .int x4), (5, .int 3), (6, .int 1)]) (lvS_cons (lvS_cons (lvS_cons (lvS_cons (lvS_cons (lvS_cons (lvS_nil (show ([6, 5, 0, 2, 3, 4] : List Nat).Nodup by decide)) rfl) rfl) rfl) rfl) rfl) rfl) ?_
            exact i11 x2 x3 x4 hh24 (by omega) (by omega) K26 (by omega)
          · refine xi_iff (pc' := 90) kc_58_87 rfl (xc_eq_f (X := r23.toInt) (Y := 0) rfl (by decide) (by omega)) ?_
            refine xi_aload_n (pc' := 91) (x := 115) kc_58_90 rfl rfl ?_
            refine xi_getfield (pc' := 94) (v := .ref 155) kc_58_91 rfl rfl rfl A40 rfl ?_
            refine xi_iload_n (pc' := 95) (x := x3) kc_58_94 rfl rfl ?_
            refine xi_iload (pc' := 97) (x := 1) kc_58_95 rfl rfl ?_
            refine xcps2 (α := Int32) (x3 + 1) (fun v44 ev44 => ?_)
            have zv44 : v44.toInt = (x3.toInt + 1) := by rw [← ev44]; exact (xz_add (X := x3.toInt) (Y := 1) rfl (by decide) (by omega) (by omega)).trans (by omega)
            refine xi_iadd (pc' := 98) (v := v44) kc_58_97 rfl ev44 ?_
            have t45 : (-1) ≤ x3.toInt ∧ x3.toInt ≤ 6559 := by omega
            refine xcps4 (xk_arr K26.1 xD_155) (fun y46 A46 hy46 ry46 => ?_)
            refine xcps4 (xj_get hy46 ry46 (i := v44) (by rw [zv44]; omega) (by rw [zv44]; omega)) (fun v47 ev47 bv47 dv47 => ?_)
            refine xi_iaload (pc' := 99) (v := v47) kc_58_98 rfl A46 (by decide) rfl (xi_in (by rw [zv44]; omega) (by rw [hy46]; rw [zv44]; omega)) ev47 ?_
            refine xi_istore (pc' := 101) (lv' := [(7, .int v47), (0, .ref 115), (2, .int x2), (3, .int x3), (4, .int x4), (5, .int 1), (6, .int 0)]) kc_58_99 rfl rfl (xm_lt ml_58 rfl) ?_
            refine xi_aload_n (pc' := 102) (x := 115) kc_58_101 rfl rfl ?_
            refine xi_getfield (pc' := 105) (v := .ref 155) kc_58_102 rfl rfl rfl A40 rfl ?_
            refine xi_iload_n (pc' := 106) (x := x3) kc_58_105 rfl rfl ?_
            refine xi_iconst (pc' := 107) (v := 2) kc_58_106 rfl rfl ?_
            refine xi_iload (pc' := 109) (x := 1) kc_58_107 rfl rfl ?_
            refine xi_imul (pc' := 110) (v := 2) kc_58_109 rfl rfl ?_
            refine xcps2 (α := Int32) (x3 + 2) (fun v48 ev48 => ?_)
            have zv48 : v48.toInt = (x3.toInt + 2) := by rw [← ev48]; exact (xz_add (X := x3.toInt) (Y := 2) rfl (by decide) (by omega) (by omega)).trans (by omega)
            refine xi_iadd (pc' := 111) (v := v48) kc_58_110 rfl ev48 ?_
            have t49 : (-2) ≤ x3.toInt ∧ x3.toInt ≤ 6558 := by omega
            refine xcps4 (xj_get hy46 ry46 (i := v48) (by rw [zv48]; omega) (by rw [zv48]; omega)) (fun v50 ev50 bv50 dv50 => ?_)
            refine xi_iaload (pc' := 112) (v := v50) kc_58_111 rfl A46 (by decide) rfl (xi_in (by rw [zv48]; omega) (by rw [hy46]; rw [zv48]; omega)) ev50 ?_
            refine xi_istore (pc' := 114) (lv' := [(8, .int v50), (7, .int v47), (0, .ref 115), (2, .int x2), (3, .int x3), (4, .int x4), (5, .int 1), (6, .int 0)]) kc_58_112 rfl rfl (xm_lt ml_58 rfl) ?_
            refine xi_aload_n (pc' := 115) (x := 115) kc_58_114 rfl rfl ?_
            refine xi_getfield (pc' := 118) (v := .ref 153) kc_58_115 rfl rfl rfl A40 rfl ?_
            refine xi_iload (pc' := 120) (x := 0) kc_58_118 rfl rfl ?_
            refine xcps4 (xk_arr K26.1 xD_153) (fun y51 A51 hy51 ry51 => ?_)
            refine xcps4 (xj_get hy51 ry51 (i := 0) (by decide) (by decide)) (fun v52 ev52 bv52 dv52 => ?_)
            refine xi_iaload (pc' := 121) (v := v52) kc_58_120 rfl A51 (by decide) rfl (xi_in (by decide) (by rw [hy51]; decide)) ev52 ?_
            refine xi_iload (pc' := 123) (x := v47) kc_58_121 rfl rfl ?_
            refine xi_iload (pc' := 125) (x := v50) kc_58_123 rfl rfl ?_
            by_cases c53 : v47.toInt ≤ v50.toInt
            · refine xi_cmt (pc' := 133) kc_58_125 rfl (xc_le_t (X := v47.toInt) (Y := v50.toInt) rfl rfl (by omega)) ?_
              refine xi_iload (pc' := 135) (x := v50) kc_58_133 rfl rfl ?_
              refine xcps2 (α := Int32) ((v52 : Int32) + v50) (fun v54 ev54 => ?_)
              have rv54 := xc_rng v54
              refine xi_iadd (pc' := 136) (v := v54) kc_58_135 rfl ev54 ?_
              refine xi_istore (pc' := 138) (lv' := [(9, .int v54), (8, .int v50), (7, .int v47), (0, .ref 115), (2, .int x2), (3, .int x3), (4, .int x4), (5, .int 1), (6, .int 0)]) kc_58_136 rfl rfl (xm_lt ml_58 rfl) ?_
              refine xi_iload (pc' := 140) (x := x4) kc_58_138 rfl rfl ?_
              refine xi_ift (pc' := 150) kc_58_140 rfl (xc_lt_t (X := x4.toInt) (Y := 0) rfl (by decide) (by omega)) ?_
              refine xi_iload (pc' := 152) (x := v54) kc_58_150 rfl rfl ?_
              refine xi_goto (pc' := 157) kc_58_152 rfl ?_
              refine xi_istore (pc' := 159) (lv' := [(4, .int v54), (9, .int v54), (8, .int v50), (7, .int v47), (0, .ref 115), (2, .int x2), (3, .int x3), (5, .int 1), (6, .int 0)]) kc_58_157 rfl rfl (xm_lt ml_58 rfl) ?_
              refine xi_iload (pc' := 161) (x := 1) kc_58_159 rfl rfl ?_
              refine xi_iconst (pc' := 162) (v := 3) kc_58_161 rfl rfl ?_
              refine xi_imul (pc' := 163) (v := 3) kc_58_162 rfl rfl ?_
              refine xi_istore (pc' := 165) (lv' := [(5, .int 3), (4, .int v54), (9, .int v54), (8, .int v50), (7, .int v47), (0, .ref 115), (2, .int x2), (3, .int x3), (6, .int 0)]) kc_58_163 rfl rfl (xm_lt ml_58 rfl) ?_
              refine xi_iinc (pc' := 168) (x := 0) (v := 1) (lv' := [(6, .int 1), (5, .int 3), (4, .int v54), (9, .int v54), (8, .int v50), (7, .int v47), (0, .ref 115), (2, .int x2), (3, .int x3)]) kc_58_165 rfl rfl rfl rfl (xm_lt ml_58 rfl) ?_
              refine xi_goto (pc' := 62) kc_58_168 rfl ?_
              have zc1 : (1 : Int32).toInt = 1 := by decide
              have zc3 : (3 : Int32).toInt = 3 := by decide
              refine xw_lv (b := [(0, .ref 115), (2, .int x2), (3, .int x3), (4, .int v54), (5, .int 3), (6, .int 1)]) (lvS_cons (lvS_cons (lvS_cons (lvS_cons (lvS_cons (lvS_cons (lvS_nil (show ([6, 5, 4, 9, 8, 7, 0, 2, 3] : List Nat).Nodup by decide)) rfl) rfl) rfl) rfl) rfl) rfl) ?_
              exact i11 x2 x3 v54 hh24 (by omega) (by omega) K26 (by omega)
            · refine xi_cmf (pc' := 128) kc_58_125 rfl (xc_le_f (X := v47.toInt) (Y := v50.toInt) rfl rfl (by omega)) ?_
              refine xi_iload (pc' := 130) (x := v47) kc_58_128 rfl rfl ?_
              refine xi_goto (pc' := 135) kc_58_130 rfl ?_
              refine xcps2 (α := Int32) ((v52 : Int32) + v47) (fun v55 ev55 => ?_)
              have rv55 := xc_rng v55
              refine xi_iadd (pc' := 136) (v := v55) kc_58_135 rfl ev55 ?_
              refine xi_istore (pc' := 138) (lv' := [(9, .int v55), (8, .int v50), (7, .int v47), (0, .ref 115), (2, .int x2), (3, .int x3), (4, .int x4), (5, .int 1), (6, .int 0)]) kc_58_136 rfl rfl (xm_lt ml_58 rfl) ?_
              refine xi_iload (pc' := 140) (x := x4) kc_58_138 rfl rfl ?_
              refine xi_ift (pc' := 150) kc_58_140 rfl (xc_lt_t (X := x4.toInt) (Y := 0) rfl (by decide) (by omega)) ?_
              refine xi_iload (pc' := 152) (x := v55) kc_58_150 rfl rfl ?_
              refine xi_goto (pc' := 157) kc_58_152 rfl ?_
              refine xi_istore (pc' := 159) (lv' := [(4, .int v55), (9, .int v55), (8, .int v50), (7, .int v47), (0, .ref 115), (2, .int x2), (3, .int x3), (5, .int 1), (6, .int 0)]) kc_58_157 rfl rfl (xm_lt ml_58 rfl) ?_
              refine xi_iload (pc' := 161) (x := 1) kc_58_159 rfl rfl ?_
              refine xi_iconst (pc' := 162) (v := 3) kc_58_161 rfl rfl ?_
              refine xi_imul (pc' := 163) (v := 3) kc_58_162 rfl rfl ?_
              refine xi_istore (pc' := 165) (lv' := [(5, .int 3), (4, .int v55), (9, .int v55), (8, .int v50), (7, .int v47), (0, .ref 115), (2, .int x2), (3, .int x3), (6, .int 0)]) kc_58_163 rfl rfl (xm_lt ml_58 rfl) ?_
              refine xi_iinc (pc' := 168) (x := 0) (v := 1) (lv' := [(6, .int 1), (5, .int 3), (4, .int v55), (9, .int v55), (8, .int v50), (7, .int v47), (0, .ref 115), (2, .int x2), (3, .int x3)]) kc_58_165 rfl rfl rfl rfl (xm_lt ml_58 rfl) ?_
              refine xi_goto (pc' := 62) kc_58_168 rfl ?_
              have zc1 : (1 : Int32).toInt = 1 := by decide
              have zc3 : (3 : Int32).toInt = 3 := by decide
              refine xw_lv (b := [(0, .ref 115), (2, .int x2), (3, .int x3), (4, .int v55), (5, .int 3), (6, .int 1)]) (lvS_cons (lvS_cons (lvS_cons (lvS_cons (lvS_cons (lvS_cons (lvS_nil (show ([6, 5, 4, 9, 8, 7, 0, 2, 3] : List Nat).Nodup by decide)) rfl) rfl) rfl) rfl) rfl) rfl) ?_
              exact i11 x2 x3 v55 hh24 (by omega) (by omega) K26 (by omega)
        · refine xi_ift (pc' := 159) kc_58_77 rfl (xc_ne_t (X := v21.toInt) (Y := 0) rfl (by decide) (by omega)) ?_
          refine xi_iload (pc' := 161) (x := 1) kc_58_159 rfl rfl ?_
          refine xi_iconst (pc' := 162) (v := 3) kc_58_161 rfl rfl ?_
          refine xi_imul (pc' := 163) (v := 3) kc_58_162 rfl rfl ?_
          refine xi_istore (pc' := 165) (lv' := [(5, .int 3), (0, .ref 115), (2, .int x2), (3, .int x3), (4, .int x4), (6, .int 0)]) kc_58_163 rfl rfl (xm_lt ml_58 rfl) ?_
          refine xi_iinc (pc' := 168) (x := 0) (v := 1) (lv' := [(6, .int 1), (5, .int 3), (0, .ref 115), (2, .int x2), (3, .int x3), (4, .int x4)]) kc_58_165 rfl rfl rfl rfl (xm_lt ml_58 rfl) ?_
          refine xi_goto (pc' := 62) kc_58_168 rfl ?_
          have zc1 : (1 : Int32).toInt = 1 := by decide
          have zc3 : (3 : Int32).toInt = 3 := by decide
          refine xw_lv (b := [(0, .ref 115), (2, .int x2), (3, .int x3), (4, .int x4), (5, .int 3), (6, .int 1)]) (lvS_cons (lvS_cons (lvS_cons (lvS_cons (lvS_cons (lvS_cons (lvS_nil (show ([6, 5, 0, 2, 3, 4] : List Nat).Nodup by decide)) rfl) rfl) rfl) rfl) rfl) rfl) ?_
          exact i11 x2 x3 x4 h (by omega) (by omega) K (by omega)
    · intro x2 x3 x4 h b2 b3 K hm
      have rx4 := xc_rng x4
      refine xi_iload (pc' := 64) (x := 1) kc_58_62 rfl rfl ?_
      refine xi_aload_n (pc' := 65) (x := 115) kc_58_64 rfl rfl ?_
      refine xp_115 K.1 (fun u1 u2 u3 u4 u5 u6 u7 u8 u9 u10 u11 u12 u13 bu1 bu2 bu3 bu4 bu5 bu6 bu7 bu8 bu9 bu10 bu11 bu12 bu13 A14 => ?_)
      refine xi_getfield (pc' := 68) (v := .int u10) kc_58_65 rfl rfl rfl A14 rfl ?_
      by_cases c15 : u10.toInt ≤ 1
      · refine xi_cmt (pc' := 171) kc_58_68 rfl (xc_ge_t (X := 1) (Y := u10.toInt) (by decide) rfl (by omega)) ?_
        refine xi_aload_n (pc' := 172) (x := 115) kc_58_171 rfl rfl ?_
        refine xi_getfield (pc' := 175) (v := .ref 155) kc_58_172 rfl rfl rfl A14 rfl ?_
        refine xi_iload_n (pc' := 176) (x := x3) kc_58_175 rfl rfl ?_
        refine xi_iload (pc' := 178) (x := x4) kc_58_176 rfl rfl ?_
        by_cases c16 : 0 ≤ x4.toInt
        · refine xi_ift (pc' := 185) kc_58_178 rfl (xc_ge_t (X := x4.toInt) (Y := 0) rfl (by decide) (by omega)) ?_
          refine xi_iload (pc' := 187) (x := x4) kc_58_185 rfl rfl ?_
          refine xcps4 (xk_arr K.1 xD_155) (fun y17 A17 hy17 ry17 => ?_)
          refine xcps4 (xj_set (v := x4) hy17 ry17 x3 (by first | omega | decide) (by first | omega | decide)) (fun y18 s18 hy18 ry18 => ?_)
          refine xi_iastore (pc' := 188) (x' := y18) kc_58_187 rfl A17 rfl (xi_in (by omega) (by rw [hy17]; omega)) s18 (fun hh18 eh18 => ?_)
          have K19 := xk_pa K (xk_wa rfl) xD_155 hy18 ry18 eh18
          refine xcps2 (α := Int32) (x3 + (-1)) (fun v20 ev20 => ?_)
          have zv20 : v20.toInt = (x3.toInt + (-1)) := by rw [← ev20]; exact (xz_add (X := x3.toInt) (Y := (-1)) rfl (by decide) (by omega) (by omega)).trans (by omega)
          refine xi_iinc (pc' := 191) (x := x3) (v := v20) (lv' := [(3, .int v20), (0, .ref 115), (2, .int x2), (4, .int x4), (5, .int 3), (6, .int 1)]) kc_58_188 rfl rfl ev20 rfl (xm_lt ml_58 rfl) ?_
          refine xi_goto (pc' := 48) kc_58_191 rfl ?_
          refine xw_lv (b := [(0, .ref 115), (2, .int x2), (3, .int v20)]) (lvS_cons (lvS_cons (lvS_cons (lvS_nil (show ([3, 0, 2, 4, 5, 6] : List Nat).Nodup by decide)) rfl) rfl) rfl) ?_
          exact i9 x2 v20 hh18 (by omega) (by omega) K19 (by omega)
        · refine xi_iff (pc' := 181) kc_58_178 rfl (xc_ge_f (X := x4.toInt) (Y := 0) rfl (by decide) (by omega)) ?_
          refine xi_iconst (pc' := 182) (v := 0) kc_58_181 rfl rfl ?_
          refine xi_goto (pc' := 187) kc_58_182 rfl ?_
          refine xcps4 (xk_arr K.1 xD_155) (fun y21 A21 hy21 ry21 => ?_)
          refine xcps4 (xj_set (v := 0) hy21 ry21 x3 (by first | omega | decide) (by first | omega | decide)) (fun y22 s22 hy22 ry22 => ?_)
          refine xi_iastore (pc' := 188) (x' := y22) kc_58_187 rfl A21 rfl (xi_in (by omega) (by rw [hy21]; omega)) s22 (fun hh22 eh22 => ?_)
          have K23 := xk_pa K (xk_wa rfl) xD_155 hy22 ry22 eh22
          refine xcps2 (α := Int32) (x3 + (-1)) (fun v24 ev24 => ?_)
          have zv24 : v24.toInt = (x3.toInt + (-1)) := by rw [← ev24]; exact (xz_add (X := x3.toInt) (Y := (-1)) rfl (by decide) (by omega) (by omega)).trans (by omega)
          refine xi_iinc (pc' := 191) (x := x3) (v := v24) (lv' := [(3, .int v24), (0, .ref 115), (2, .int x2), (4, .int x4), (5, .int 3), (6, .int 1)]) kc_58_188 rfl rfl ev24 rfl (xm_lt ml_58 rfl) ?_
          refine xi_goto (pc' := 48) kc_58_191 rfl ?_
          refine xw_lv (b := [(0, .ref 115), (2, .int x2), (3, .int v24)]) (lvS_cons (lvS_cons (lvS_cons (lvS_nil (show ([3, 0, 2, 4, 5, 6] : List Nat).Nodup by decide)) rfl) rfl) rfl) ?_
          exact i9 x2 v24 hh22 (by omega) (by omega) K23 (by omega)
      · refine xi_cmf (pc' := 71) kc_58_68 rfl (xc_ge_f (X := 1) (Y := u10.toInt) (by decide) rfl (by omega)) ?_
        refine xi_iload_n (pc' := 72) (x := x3) kc_58_71 rfl rfl ?_
        refine xi_iload (pc' := 74) (x := 3) kc_58_72 rfl rfl ?_
        refine xcps2 (α := Int32) (x3 / 3) (fun v25 ev25 => ?_)
        have dv25 : v25.toInt = x3.toInt / 3 := by rw [← ev25]; exact xz_dive (X := x3.toInt) (Y := 3) rfl (by decide) (by omega) (by decide)
        have bv25 : 0 ≤ v25.toInt ∧ v25.toInt ≤ 2186 := by omega
        refine xi_idiv (pc' := 75) (v := v25) kc_58_74 rfl ev25 (by decide) ?_
        refine xi_iconst (pc' := 76) (v := 3) kc_58_75 rfl rfl ?_
        refine xcps2 (α := Int32) (v25 - v25 / 3 * 3) (fun v26 ev26 => ?_)
        have dv26 : v26.toInt = v25.toInt % 3 := by rw [← ev26]; exact xz_reme (X := v25.toInt) (Y := 3) rfl (by decide) (by omega) (by decide)
        have bv26 : 0 ≤ v26.toInt ∧ v26.toInt ≤ 2 := by omega
        refine xi_irem (pc' := 77) (v := v26) kc_58_76 rfl ev26 (by decide) ?_
        by_cases c27 : v26.toInt = 0
        · refine xi_iff (pc' := 80) kc_58_77 rfl (xc_ne_f (X := v26.toInt) (Y := 0) rfl (by decide) (by omega)) ?_
          refine xi_aload_n (pc' := 81) (x := 115) kc_58_80 rfl rfl ?_
          refine xi_iload_n (pc' := 82) (x := x3) kc_58_81 rfl rfl ?_
          refine xi_iload (pc' := 84) (x := 1) kc_58_82 rfl rfl ?_
          refine xi_virtual (mj := 59) (as := [.int x3, .int 1]) (st1 := []) (lv0 := [(0, .ref 115), (1, .int x3), (2, .int 1)]) kc_58_84 rfl rfl rfl rfl rfl A14 (Nat.le_of_ble_eq_true rfl) (hJ _ _ _ _ (by decide)) (xm_le ml_59 rfl) rfl ?_
          have zc1 : (1 : Int32).toInt = 1 := by decide
          refine mt_59_0 hJ hov1 hov2 (d := d + 3) (x1 := x3) (x2 := 1) K.1 (by first | omega | decide) (by first | omega | decide) (fun r28 hh29 br28 K30 => ?_)
          have K31 := xk_tr K K30 rfl
          refine xp_115 K31.1 (fun u32 u33 u34 u35 u36 u37 u38 u39 u40 u41 u42 u43 u44 bu32 bu33 bu34 bu35 bu36 bu37 bu38 bu39 bu40 bu41 bu42 bu43 bu44 A45 => ?_)
          have e46 : u2 = u33 := xk_eqi (q := 1) K30 rfl A14 A45 rfl rfl
          subst e46
          have e47 : u4 = u35 := xk_eqi (q := 18) K30 rfl A14 A45 rfl rfl
          subst e47
          show xw J ov (d + 7) 58 (87, [(0, .ref 115), (2, .int x2), (3, .int x3), (4, .int x4), (5, .int 3), (6, .int 1)], [.int r28], hh29) _
          by_cases c48 : r28.toInt = 0
          · refine xi_ift (pc' := 159) kc_58_87 rfl (xc_eq_t (X := r28.toInt) (Y := 0) rfl (by decide) (by omega)) ?_
            refine xi_iload (pc' := 161) (x := 3) kc_58_159 rfl rfl ?_
            refine xi_iconst (pc' := 162) (v := 3) kc_58_161 rfl rfl ?_
            refine xi_imul (pc' := 163) (v := 9) kc_58_162 rfl rfl ?_
            refine xi_istore (pc' := 165) (lv' := [(5, .int 9), (0, .ref 115), (2, .int x2), (3, .int x3), (4, .int x4), (6, .int 1)]) kc_58_163 rfl rfl (xm_lt ml_58 rfl) ?_
            refine xi_iinc (pc' := 168) (x := 1) (v := 2) (lv' := [(6, .int 2), (5, .int 9), (0, .ref 115), (2, .int x2), (3, .int x3), (4, .int x4)]) kc_58_165 rfl rfl rfl rfl (xm_lt ml_58 rfl) ?_
            refine xi_goto (pc' := 62) kc_58_168 rfl ?_
            have zc2 : (2 : Int32).toInt = 2 := by decide
            have zc9 : (9 : Int32).toInt = 9 := by decide
            refine xw_lv (b := [(0, .ref 115), (2, .int x2), (3, .int x3), (4, .int x4), (5, .int 9), (6, .int 2)]) (lvS_cons (lvS_cons (lvS_cons (lvS_cons (lvS_cons (lvS_cons (lvS_nil (show ([6, 5, 0, 2, 3, 4] : List Nat).Nodup by decide)) rfl) rfl) rfl) rfl) rfl) rfl) ?_
            exact i12 x2 x3 x4 hh29 (by omega) (by omega) K31 (by omega)
          · refine xi_iff (pc' := 90) kc_58_87 rfl (xc_eq_f (X := r28.toInt) (Y := 0) rfl (by decide) (by omega)) ?_
            refine xi_aload_n (pc' := 91) (x := 115) kc_58_90 rfl rfl ?_
            refine xi_getfield (pc' := 94) (v := .ref 155) kc_58_91 rfl rfl rfl A45 rfl ?_
            refine xi_iload_n (pc' := 95) (x := x3) kc_58_94 rfl rfl ?_
            refine xi_iload (pc' := 97) (x := 3) kc_58_95 rfl rfl ?_
            refine xcps2 (α := Int32) (x3 + 3) (fun v49 ev49 => ?_)
            have zv49 : v49.toInt = (x3.toInt + 3) := by rw [← ev49]; exact (xz_add (X := x3.toInt) (Y := 3) rfl (by decide) (by omega) (by omega)).trans (by omega)
            refine xi_iadd (pc' := 98) (v := v49) kc_58_97 rfl ev49 ?_
            have t50 : (-3) ≤ x3.toInt ∧ x3.toInt ≤ 6557 := by omega
            refine xcps4 (xk_arr K31.1 xD_155) (fun y51 A51 hy51 ry51 => ?_)
            refine xcps4 (xj_get hy51 ry51 (i := v49) (by rw [zv49]; omega) (by rw [zv49]; omega)) (fun v52 ev52 bv52 dv52 => ?_)
            refine xi_iaload (pc' := 99) (v := v52) kc_58_98 rfl A51 (by decide) rfl (xi_in (by rw [zv49]; omega) (by rw [hy51]; rw [zv49]; omega)) ev52 ?_
            refine xi_istore (pc' := 101) (lv' := [(7, .int v52), (0, .ref 115), (2, .int x2), (3, .int x3), (4, .int x4), (5, .int 3), (6, .int 1)]) kc_58_99 rfl rfl (xm_lt ml_58 rfl) ?_
            refine xi_aload_n (pc' := 102) (x := 115) kc_58_101 rfl rfl ?_
            refine xi_getfield (pc' := 105) (v := .ref 155) kc_58_102 rfl rfl rfl A45 rfl ?_
            refine xi_iload_n (pc' := 106) (x := x3) kc_58_105 rfl rfl ?_
            refine xi_iconst (pc' := 107) (v := 2) kc_58_106 rfl rfl ?_
            refine xi_iload (pc' := 109) (x := 3) kc_58_107 rfl rfl ?_
            refine xi_imul (pc' := 110) (v := 6) kc_58_109 rfl rfl ?_
            refine xcps2 (α := Int32) (x3 + 6) (fun v53 ev53 => ?_)
            have zv53 : v53.toInt = (x3.toInt + 6) := by rw [← ev53]; exact (xz_add (X := x3.toInt) (Y := 6) rfl (by decide) (by omega) (by omega)).trans (by omega)
            refine xi_iadd (pc' := 111) (v := v53) kc_58_110 rfl ev53 ?_
            have t54 : (-6) ≤ x3.toInt ∧ x3.toInt ≤ 6554 := by omega
            refine xcps4 (xj_get hy51 ry51 (i := v53) (by rw [zv53]; omega) (by rw [zv53]; omega)) (fun v55 ev55 bv55 dv55 => ?_)
            refine xi_iaload (pc' := 112) (v := v55) kc_58_111 rfl A51 (by decide) rfl (xi_in (by rw [zv53]; omega) (by rw [hy51]; rw [zv53]; omega)) ev55 ?_
            refine xi_istore (pc' := 114) (lv' := [(8, .int v55), (7, .int v52), (0, .ref 115), (2, .int x2), (3, .int x3), (4, .int x4), (5, .int 3), (6, .int 1)]) kc_58_112 rfl rfl (xm_lt ml_58 rfl) ?_
            refine xi_aload_n (pc' := 115) (x := 115) kc_58_114 rfl rfl ?_
            refine xi_getfield (pc' := 118) (v := .ref 153) kc_58_115 rfl rfl rfl A45 rfl ?_
            refine xi_iload (pc' := 120) (x := 1) kc_58_118 rfl rfl ?_
            refine xcps4 (xk_arr K31.1 xD_153) (fun y56 A56 hy56 ry56 => ?_)
            refine xcps4 (xj_get hy56 ry56 (i := 1) (by decide) (by decide)) (fun v57 ev57 bv57 dv57 => ?_)
            refine xi_iaload (pc' := 121) (v := v57) kc_58_120 rfl A56 (by decide) rfl (xi_in (by decide) (by rw [hy56]; decide)) ev57 ?_
            refine xi_iload (pc' := 123) (x := v52) kc_58_121 rfl rfl ?_
            refine xi_iload (pc' := 125) (x := v55) kc_58_123 rfl rfl ?_
            by_cases c58 : v52.toInt ≤ v55.toInt
            · refine xi_cmt (pc' := 133) kc_58_125 rfl (xc_le_t (X := v52.toInt) (Y := v55.toInt) rfl rfl (by omega)) ?_
              refine xi_iload (pc' := 135) (x := v55) kc_58_133 rfl rfl ?_
              refine xcps2 (α := Int32) ((v57 : Int32) + v55) (fun v59 ev59 => ?_)
              have rv59 := xc_rng v59
              refine xi_iadd (pc' := 136) (v := v59) kc_58_135 rfl ev59 ?_
              refine xi_istore (pc' := 138) (lv' := [(9, .int v59), (8, .int v55), (7, .int v52), (0, .ref 115), (2, .int x2), (3, .int x3), (4, .int x4), (5, .int 3), (6, .int 1)]) kc_58_136 rfl rfl (xm_lt ml_58 rfl) ?_
              refine xi_iload (pc' := 140) (x := x4) kc_58_138 rfl rfl ?_
              by_cases c60 : x4.toInt < 0
              · refine xi_ift (pc' := 150) kc_58_140 rfl (xc_lt_t (X := x4.toInt) (Y := 0) rfl (by decide) (by omega)) ?_
                refine xi_iload (pc' := 152) (x := v59) kc_58_150 rfl rfl ?_
                refine xi_goto (pc' := 157) kc_58_152 rfl ?_
                refine xi_istore (pc' := 159) (lv' := [(4, .int v59), (9, .int v59), (8, .int v55), (7, .int v52), (0, .ref 115), (2, .int x2), (3, .int x3), (5, .int 3), (6, .int 1)]) kc_58_157 rfl rfl (xm_lt ml_58 rfl) ?_
                refine xi_iload (pc' := 161) (x := 3) kc_58_159 rfl rfl ?_
                refine xi_iconst (pc' := 162) (v := 3) kc_58_161 rfl rfl ?_
                refine xi_imul (pc' := 163) (v := 9) kc_58_162 rfl rfl ?_
                refine xi_istore (pc' := 165) (lv' := [(5, .int 9), (4, .int v59), (9, .int v59), (8, .int v55), (7, .int v52), (0, .ref 115), (2, .int x2), (3, .int x3), (6, .int 1)]) kc_58_163 rfl rfl (xm_lt ml_58 rfl) ?_
                refine xi_iinc (pc' := 168) (x := 1) (v := 2) (lv' := [(6, .int 2), (5, .int 9), (4, .int v59), (9, .int v59), (8, .int v55), (7, .int v52), (0, .ref 115), (2, .int x2), (3, .int x3)]) kc_58_165 rfl rfl rfl rfl (xm_lt ml_58 rfl) ?_
                refine xi_goto (pc' := 62) kc_58_168 rfl ?_
                have zc2 : (2 : Int32).toInt = 2 := by decide
                have zc9 : (9 : Int32).toInt = 9 := by decide
                refine xw_lv (b := [(0, .ref 115), (2, .int x2), (3, .int x3), (4, .int v59), (5, .int 9), (6, .int 2)]) (lvS_cons (lvS_cons (lvS_cons (lvS_cons (lvS_cons (lvS_cons (lvS_nil (show ([6, 5, 4, 9, 8, 7, 0, 2, 3] : List Nat).Nodup by decide)) rfl) rfl) rfl) rfl) rfl) rfl) ?_
                exact i12 x2 x3 v59 hh29 (by omega) (by omega) K31 (by omega)
              · refine xi_iff (pc' := 143) kc_58_140 rfl (xc_lt_f (X := x4.toInt) (Y := 0) rfl (by decide) (by omega)) ?_
                refine xi_iload (pc' := 145) (x := v59) kc_58_143 rfl rfl ?_
                refine xi_iload (pc' := 147) (x := x4) kc_58_145 rfl rfl ?_
                by_cases c61 : x4.toInt ≤ v59.toInt
                · refine xi_cmt (pc' := 155) kc_58_147 rfl (xc_ge_t (X := v59.toInt) (Y := x4.toInt) rfl rfl (by omega)) ?_
                  refine xi_iload (pc' := 157) (x := x4) kc_58_155 rfl rfl ?_
                  refine xi_istore (pc' := 159) (lv' := [(4, .int x4), (9, .int v59), (8, .int v55), (7, .int v52), (0, .ref 115), (2, .int x2), (3, .int x3), (5, .int 3), (6, .int 1)]) kc_58_157 rfl rfl (xm_lt ml_58 rfl) ?_
                  refine xi_iload (pc' := 161) (x := 3) kc_58_159 rfl rfl ?_
                  refine xi_iconst (pc' := 162) (v := 3) kc_58_161 rfl rfl ?_
                  refine xi_imul (pc' := 163) (v := 9) kc_58_162 rfl rfl ?_
                  refine xi_istore (pc' := 165) (lv' := [(5, .int 9), (4, .int x4), (9, .int v59), (8, .int v55), (7, .int v52), (0, .ref 115), (2, .int x2), (3, .int x3), (6, .int 1)]) kc_58_163 rfl rfl (xm_lt ml_58 rfl) ?_
                  refine xi_iinc (pc' := 168) (x := 1) (v := 2) (lv' := [(6, .int 2), (5, .int 9), (4, .int x4), (9, .int v59), (8, .int v55), (7, .int v52), (0, .ref 115), (2, .int x2), (3, .int x3)]) kc_58_165 rfl rfl rfl rfl (xm_lt ml_58 rfl) ?_
                  refine xi_goto (pc' := 62) kc_58_168 rfl ?_
                  have zc2 : (2 : Int32).toInt = 2 := by decide
                  have zc9 : (9 : Int32).toInt = 9 := by decide
                  refine xw_lv (b := [(0, .ref 115), (2, .int x2), (3, .int x3), (4, .int x4), (5, .int 9), (6, .int 2)]) (lvS_cons (lvS_cons (lvS_cons (lvS_cons (lvS_cons (lvS_cons (lvS_nil (show ([6, 5, 4, 9, 8, 7, 0, 2, 3] : List Nat).Nodup by decide)) rfl) rfl) rfl) rfl) rfl) rfl) ?_
                  exact i12 x2 x3 x4 hh29 (by omega) (by omega) K31 (by omega)
                · refine xi_cmf (pc' := 150) kc_58_147 rfl (xc_ge_f (X := v59.toInt) (Y := x4.toInt) rfl rfl (by omega)) ?_
                  refine xi_iload (pc' := 152) (x := v59) kc_58_150 rfl rfl ?_
                  refine xi_goto (pc' := 157) kc_58_152 rfl ?_
                  refine xi_istore (pc' := 159) (lv' := [(4, .int v59), (9, .int v59), (8, .int v55), (7, .int v52), (0, .ref 115), (2, .int x2), (3, .int x3), (5, .int 3), (6, .int 1)]) kc_58_157 rfl rfl (xm_lt ml_58 rfl) ?_
                  refine xi_iload (pc' := 161) (x := 3) kc_58_159 rfl rfl ?_
                  refine xi_iconst (pc' := 162) (v := 3) kc_58_161 rfl rfl ?_
                  refine xi_imul (pc' := 163) (v := 9) kc_58_162 rfl rfl ?_
                  refine xi_istore (pc' := 165) (lv' := [(5, .int 9), (4, .int v59), (9, .int v59), (8, .int v55), (7, .int v52), (0, .ref 115), (2, .int x2), (3, .int x3), (6, .int 1)]) kc_58_163 rfl rfl (xm_lt ml_58 rfl) ?_
                  refine xi_iinc (pc' := 168) (x := 1) (v := 2) (lv' := [(6, .int 2), (5, .int 9), (4, .int v59), (9, .int v59), (8, .int v55), (7, .int v52), (0, .ref 115), (2, .int x2), (3, .int x3)]) kc_58_165 rfl rfl rfl rfl (xm_lt ml_58 rfl) ?_
                  refine xi_goto (pc' := 62) kc_58_168 rfl ?_
                  have zc2 : (2 : Int32).toInt = 2 := by decide
                  have zc9 : (9 : Int32).toInt = 9 := by decide
                  refine xw_lv (b := [(0, .ref 115), (2, .int x2), (3, .int x3), (4, .int v59), (5, .int 9), (6, .int 2)]) (lvS_cons (lvS_cons (lvS_cons (lvS_cons (lvS_cons (lvS_cons (lvS_nil (show ([6, 5, 4, 9, 8, 7, 0, 2, 3] : List Nat).Nodup by decide)) rfl) rfl) rfl) rfl) rfl) rfl) ?_
                  exact i12 x2 x3 v59 hh29 (by omega) (by omega) K31 (by omega)
            · refine xi_cmf (pc' := 128) kc_58_125 rfl (xc_le_f (X := v52.toInt) (Y := v55.toInt) rfl rfl (by omega)) ?_
              refine xi_iload (pc' := 130) (x := v52) kc_58_128 rfl rfl ?_
              refine xi_goto (pc' := 135) kc_58_130 rfl ?_
              refine xcps2 (α := Int32) ((v57 : Int32) + v52) (fun v62 ev62 => ?_)
              have rv62 := xc_rng v62
              refine xi_iadd (pc' := 136) (v := v62) kc_58_135 rfl ev62 ?_
              refine xi_istore (pc' := 138) (lv' := [(9, .int v62), (8, .int v55), (7, .int v52), (0, .ref 115), (2, .int x2), (3, .int x3), (4, .int x4), (5, .int 3), (6, .int 1)]) kc_58_136 rfl rfl (xm_lt ml_58 rfl) ?_
              refine xi_iload (pc' := 140) (x := x4) kc_58_138 rfl rfl ?_
              by_cases c63 : x4.toInt < 0
              · refine xi_ift (pc' := 150) kc_58_140 rfl (xc_lt_t (X := x4.toInt) (Y := 0) rfl (by decide) (by omega)) ?_
                refine xi_iload (pc' := 152) (x := v62) kc_58_150 rfl rfl ?_
                refine xi_goto (pc' := 157) kc_58_152 rfl ?_
                refine xi_istore (pc' := 159) (lv' := [(4, .int v62), (9, .int v62), (8, .int v55), (7, .int v52), (0, .ref 115), (2, .int x2), (3, .int x3), (5, .int 3), (6, .int 1)]) kc_58_157 rfl rfl (xm_lt ml_58 rfl) ?_
                refine xi_iload (pc' := 161) (x := 3) kc_58_159 rfl rfl ?_
                refine xi_iconst (pc' := 162) (v := 3) kc_58_161 rfl rfl ?_
                refine xi_imul (pc' := 163) (v := 9) kc_58_162 rfl rfl ?_
                refine xi_istore (pc' := 165) (lv' := [(5, .int 9), (4, .int v62), (9, .int v62), (8, .int v55), (7, .int v52), (0, .ref 115), (2, .int x2), (3, .int x3), (6, .int 1)]) kc_58_163 rfl rfl (xm_lt ml_58 rfl) ?_
                refine xi_iinc (pc' := 168) (x := 1) (v := 2) (lv' := [(6, .int 2), (5, .int 9), (4, .int v62), (9, .int v62), (8, .int v55), (7, .int v52), (0, .ref 115), (2, .int x2), (3, .int x3)]) kc_58_165 rfl rfl rfl rfl (xm_lt ml_58 rfl) ?_
                refine xi_goto (pc' := 62) kc_58_168 rfl ?_
                have zc2 : (2 : Int32).toInt = 2 := by decide
                have zc9 : (9 : Int32).toInt = 9 := by decide
                refine xw_lv (b := [(0, .ref 115), (2, .int x2), (3, .int x3), (4, .int v62), (5, .int 9), (6, .int 2)]) (lvS_cons (lvS_cons (lvS_cons (lvS_cons (lvS_cons (lvS_cons (lvS_nil (show ([6, 5, 4, 9, 8, 7, 0, 2, 3] : List Nat).Nodup by decide)) rfl) rfl) rfl) rfl) rfl) rfl) ?_
                exact i12 x2 x3 v62 hh29 (by omega) (by omega) K31 (by omega)
              · refine xi_iff (pc' := 143) kc_58_140 rfl (xc_lt_f (X := x4.toInt) (Y := 0) rfl (by decide) (by omega)) ?_
                refine xi_iload (pc' := 145) (x := v62) kc_58_143 rfl rfl ?_
                refine xi_iload (pc' := 147) (x := x4) kc_58_145 rfl rfl ?_
                by_cases c64 : x4.toInt ≤ v62.toInt
                · refine xi_cmt (pc' := 155) kc_58_147 rfl (xc_ge_t (X := v62.toInt) (Y := x4.toInt) rfl rfl (by omega)) ?_
                  refine xi_iload (pc' := 157) (x := x4) kc_58_155 rfl rfl ?_
                  refine xi_istore (pc' := 159) (lv' := [(4, .int x4), (9, .int v62), (8, .int v55), (7, .int v52), (0, .ref 115), (2, .int x2), (3, .int x3), (5, .int 3), (6, .int 1)]) kc_58_157 rfl rfl (xm_lt ml_58 rfl) ?_
                  refine xi_iload (pc' := 161) (x := 3) kc_58_159 rfl rfl ?_
                  refine xi_iconst (pc' := 162) (v := 3) kc_58_161 rfl rfl ?_
                  refine xi_imul (pc' := 163) (v := 9) kc_58_162 rfl rfl ?_
                  refine xi_istore (pc' := 165) (lv' := [(5, .int 9), (4, .int x4), (9, .int v62), (8, .int v55), (7, .int v52), (0, .ref 115), (2, .int x2), (3, .int x3), (6, .int 1)]) kc_58_163 rfl rfl (xm_lt ml_58 rfl) ?_
                  refine xi_iinc (pc' := 168) (x := 1) (v := 2) (lv' := [(6, .int 2), (5, .int 9), (4, .int x4), (9, .int v62), (8, .int v55), (7, .int v52), (0, .ref 115), (2, .int x2), (3, .int x3)]) kc_58_165 rfl rfl rfl rfl (xm_lt ml_58 rfl) ?_
                  refine xi_goto (pc' := 62) kc_58_168 rfl ?_
                  have zc2 : (2 : Int32).toInt = 2 := by decide
                  have zc9 : (9 : Int32).toInt = 9 := by decide
                  refine xw_lv (b := [(0, .ref 115), (2, .int x2), (3, .int x3), (4, .int x4), (5, .int 9), (6, .int 2)]) (lvS_cons (lvS_cons (lvS_cons (lvS_cons (lvS_cons (lvS_cons (lvS_nil (show ([6, 5, 4, 9, 8, 7, 0, 2, 3] : List Nat).Nodup by decide)) rfl) rfl) rfl) rfl) rfl) rfl) ?_
                  exact i12 x2 x3 x4 hh29 (by omega) (by omega) K31 (by omega)
                · refine xi_cmf (pc' := 150) kc_58_147 rfl (xc_ge_f (X := v62.toInt) (Y := x4.toInt) rfl rfl (by omega)) ?_
                  refine xi_iload (pc' := 152) (x := v62) kc_58_150 rfl rfl ?_
                  refine xi_goto (pc' := 157) kc_58_152 rfl ?_
                  refine xi_istore (pc' := 159) (lv' := [(4, .int v62), (9, .int v62), (8, .int v55), (7, .int v52), (0, .ref 115), (2, .int x2), (3, .int x3), (5, .int 3), (6, .int 1)]) kc_58_157 rfl rfl (xm_lt ml_58 rfl) ?_
                  refine xi_iload (pc' := 161) (x := 3) kc_58_159 rfl rfl ?_
                  refine xi_iconst (pc' := 162) (v := 3) kc_58_161 rfl rfl ?_
                  refine xi_imul (pc' := 163) (v := 9) kc_58_162 rfl rfl ?_
                  refine xi_istore (pc' := 165) (lv' := [(5, .int 9), (4, .int v62), (9, .int v62), (8, .int v55), (7, .int v52), (0, .ref 115), (2, .int x2), (3, .int x3), (6, .int 1)]) kc_58_163 rfl rfl (xm_lt ml_58 rfl) ?_
                  refine xi_iinc (pc' := 168) (x := 1) (v := 2) (lv' := [(6, .int 2), (5, .int 9), (4, .int v62), (9, .int v62), (8, .int v55), (7, .int v52), (0, .ref 115), (2, .int x2), (3, .int x3)]) kc_58_165 rfl rfl rfl rfl (xm_lt ml_58 rfl) ?_
                  refine xi_goto (pc' := 62) kc_58_168 rfl ?_
                  have zc2 : (2 : Int32).toInt = 2 := by decide
                  have zc9 : (9 : Int32).toInt = 9 := by decide
                  refine xw_lv (b := [(0, .ref 115), (2, .int x2), (3, .int x3), (4, .int v62), (5, .int 9), (6, .int 2)]) (lvS_cons (lvS_cons (lvS_cons (lvS_cons (lvS_cons (lvS_cons (lvS_nil (show ([6, 5, 4, 9, 8, 7, 0, 2, 3] : List Nat).Nodup by decide)) rfl) rfl) rfl) rfl) rfl) rfl) ?_
                  exact i12 x2 x3 v62 hh29 (by omega) (by omega) K31 (by omega)
        · refine xi_ift (pc' := 159) kc_58_77 rfl (xc_ne_t (X := v26.toInt) (Y := 0) rfl (by decide) (by omega)) ?_
          refine xi_iload (pc' := 161) (x := 3) kc_58_159 rfl rfl ?_
          refine xi_iconst (pc' := 162) (v := 3) kc_58_161 rfl rfl ?_
          refine xi_imul (pc' := 163) (v := 9) kc_58_162 rfl rfl ?_
          refine xi_istore (pc' := 165) (lv' := [(5, .int 9), (0, .ref 115), (2, .int x2), (3, .int x3), (4, .int x4), (6, .int 1)]) kc_58_163 rfl rfl (xm_lt ml_58 rfl) ?_
          refine xi_iinc (pc' := 168) (x := 1) (v := 2) (lv' := [(6, .int 2), (5, .int 9), (0, .ref 115), (2, .int x2), (3, .int x3), (4, .int x4)]) kc_58_165 rfl rfl rfl rfl (xm_lt ml_58 rfl) ?_
          refine xi_goto (pc' := 62) kc_58_168 rfl ?_
          have zc2 : (2 : Int32).toInt = 2 := by decide
          have zc9 : (9 : Int32).toInt = 9 := by decide
          refine xw_lv (b := [(0, .ref 115), (2, .int x2), (3, .int x3), (4, .int x4), (5, .int 9), (6, .int 2)]) (lvS_cons (lvS_cons (lvS_cons (lvS_cons (lvS_cons (lvS_cons (lvS_nil (show ([6, 5, 0, 2, 3, 4] : List Nat).Nodup by decide)) rfl) rfl) rfl) rfl) rfl) rfl) ?_
          exact i12 x2 x3 x4 h (by omega) (by omega) K (by omega)
    · intro x2 x3 x4 h b2 b3 K hm
      have rx4 := xc_rng x4
      refine xi_iload (pc' := 64) (x := 2) kc_58_62 rfl rfl ?_
      refine xi_aload_n (pc' := 65) (x := 115) kc_58_64 rfl rfl ?_
      refine xp_115 K.1 (fun u1 u2 u3 u4 u5 u6 u7 u8 u9 u10 u11 u12 u13 bu1 bu2 bu3 bu4 bu5 bu6 bu7 bu8 bu9 bu10 bu11 bu12 bu13 A14 => ?_)
      refine xi_getfield (pc' := 68) (v := .int u10) kc_58_65 rfl rfl rfl A14 rfl ?_
      by_cases c15 : u10.toInt ≤ 2
      · refine xi_cmt (pc' := 171) kc_58_68 rfl (xc_ge_t (X := 2) (Y := u10.toInt) (by decide) rfl (by omega)) ?_
        refine xi_aload_n (pc' := 172) (x := 115) kc_58_171 rfl rfl ?_
        refine xi_getfield (pc' := 175) (v := .ref 155) kc_58_172 rfl rfl rfl A14 rfl ?_
        refine xi_iload_n (pc' := 176) (x := x3) kc_58_175 rfl rfl ?_
        refine xi_iload (pc' := 178) (x := x4) kc_58_176 rfl rfl ?_
        by_cases c16 : 0 ≤ x4.toInt
        · refine xi_ift (pc' := 185) kc_58_178 rfl (xc_ge_t (X := x4.toInt) (Y := 0) rfl (by decide) (by omega)) ?_
          refine xi_iload (pc' := 187) (x := x4) kc_58_185 rfl rfl ?_
          refine xcps4 (xk_arr K.1 xD_155) (fun y17 A17 hy17 ry17 => ?_)
          refine xcps4 (xj_set (v := x4) hy17 ry17 x3 (by first | omega | decide) (by first | omega | decide)) (fun y18 s18 hy18 ry18 => ?_)
          refine xi_iastore (pc' := 188) (x' := y18) kc_58_187 rfl A17 rfl (xi_in (by omega) (by rw [hy17]; omega)) s18 (fun hh18 eh18 => ?_)
          have K19 := xk_pa K (xk_wa rfl) xD_155 hy18 ry18 eh18
          refine xcps2 (α := Int32) (x3 + (-1)) (fun v20 ev20 => ?_)
          have zv20 : v20.toInt = (x3.toInt + (-1)) := by rw [← ev20]; exact (xz_add (X := x3.toInt) (Y := (-1)) rfl (by decide) (by omega) (by omega)).trans (by omega)
          refine xi_iinc (pc' := 191) (x := x3) (v := v20) (lv' := [(3, .int v20), (0, .ref 115), (2, .int x2), (4, .int x4), (5, .int 9), (6, .int 2)]) kc_58_188 rfl rfl ev20 rfl (xm_lt ml_58 rfl) ?_
          refine xi_goto (pc' := 48) kc_58_191 rfl ?_
          refine xw_lv (b := [(0, .ref 115), (2, .int x2), (3, .int v20)]) (lvS_cons (lvS_cons (lvS_cons (lvS_nil (show ([3, 0, 2, 4, 5, 6] : List Nat).Nodup by decide)) rfl) rfl) rfl) ?_
          exact i9 x2 v20 hh18 (by omega) (by omega) K19 (by omega)
        · refine xi_iff (pc' := 181) kc_58_178 rfl (xc_ge_f (X := x4.toInt) (Y := 0) rfl (by decide) (by omega)) ?_
          refine xi_iconst (pc' := 182) (v := 0) kc_58_181 rfl rfl ?_
          refine xi_goto (pc' := 187) kc_58_182 rfl ?_
          refine xcps4 (xk_arr K.1 xD_155) (fun y21 A21 hy21 ry21 => ?_)
          refine xcps4 (xj_set (v := 0) hy21 ry21 x3 (by first | omega | decide) (by first | omega | decide)) (fun y22 s22 hy22 ry22 => ?_)
          refine xi_iastore (pc' := 188) (x' := y22) kc_58_187 rfl A21 rfl (xi_in (by omega) (by rw [hy21]; omega)) s22 (fun hh22 eh22 => ?_)
          have K23 := xk_pa K (xk_wa rfl) xD_155 hy22 ry22 eh22
          refine xcps2 (α := Int32) (x3 + (-1)) (fun v24 ev24 => ?_)
          have zv24 : v24.toInt = (x3.toInt + (-1)) := by rw [← ev24]; exact (xz_add (X := x3.toInt) (Y := (-1)) rfl (by decide) (by omega) (by omega)).trans (by omega)
          refine xi_iinc (pc' := 191) (x := x3) (v := v24) (lv' := [(3, .int v24), (0, .ref 115), (2, .int x2), (4, .int x4), (5, .int 9), (6, .int 2)]) kc_58_188 rfl rfl ev24 rfl (xm_lt ml_58 rfl) ?_
          refine xi_goto (pc' := 48) kc_58_191 rfl ?_
          refine xw_lv (b := [(0, .ref 115), (2, .int x2), (3, .int v24)]) (lvS_cons (lvS_cons (lvS_cons (lvS_nil (show ([3, 0, 2, 4, 5, 6] : List Nat).Nodup by decide)) rfl) rfl) rfl) ?_
          exact i9 x2 v24 hh22 (by omega) (by omega) K23 (by omega)
      · refine xi_cmf (pc' := 71) kc_58_68 rfl (xc_ge_f (X := 2) (Y := u10.toInt) (by decide) rfl (by omega)) ?_
        refine xi_iload_n (pc' := 72) (x := x3) kc_58_71 rfl rfl ?_
        refine xi_iload (pc' := 74) (x := 9) kc_58_72 rfl rfl ?_
        refine xcps2 (α := Int32) (x3 / 9) (fun v25 ev25 => ?_)
        have dv25 : v25.toInt = x3.toInt / 9 := by rw [← ev25]; exact xz_dive (X := x3.toInt) (Y := 9) rfl (by decide) (by omega) (by decide)
        have bv25 : 0 ≤ v25.toInt ∧ v25.toInt ≤ 728 := by omega
        refine xi_idiv (pc' := 75) (v := v25) kc_58_74 rfl ev25 (by decide) ?_
        refine xi_iconst (pc' := 76) (v := 3) kc_58_75 rfl rfl ?_
        refine xcps2 (α := Int32) (v25 - v25 / 3 * 3) (fun v26 ev26 => ?_)
        have dv26 : v26.toInt = v25.toInt % 3 := by rw [← ev26]; exact xz_reme (X := v25.toInt) (Y := 3) rfl (by decide) (by omega) (by decide)
        have bv26 : 0 ≤ v26.toInt ∧ v26.toInt ≤ 2 := by omega
        refine xi_irem (pc' := 77) (v := v26) kc_58_76 rfl ev26 (by decide) ?_
        by_cases c27 : v26.toInt = 0
        · refine xi_iff (pc' := 80) kc_58_77 rfl (xc_ne_f (X := v26.toInt) (Y := 0) rfl (by decide) (by omega)) ?_
          refine xi_aload_n (pc' := 81) (x := 115) kc_58_80 rfl rfl ?_
          refine xi_iload_n (pc' := 82) (x := x3) kc_58_81 rfl rfl ?_
          refine xi_iload (pc' := 84) (x := 2) kc_58_82 rfl rfl ?_
          refine xi_virtual (mj := 59) (as := [.int x3, .int 2]) (st1 := []) (lv0 := [(0, .ref 115), (1, .int x3), (2, .int 2)]) kc_58_84 rfl rfl rfl rfl rfl A14 (Nat.le_of_ble_eq_true rfl) (hJ _ _ _ _ (by decide)) (xm_le ml_59 rfl) rfl ?_
          have zc2 : (2 : Int32).toInt = 2 := by decide
          refine mt_59_0 hJ hov1 hov2 (d := d + 3) (x1 := x3) (x2 := 2) K.1 (by first | omega | decide) (by first | omega | decide) (fun r28 hh29 br28 K30 => ?_)
          have K31 := xk_tr K K30 rfl
          refine xp_115 K31.1 (fun u32 u33 u34 u35 u36 u37 u38 u39 u40 u41 u42 u43 u44 bu32 bu33 bu34 bu35 bu36 bu37 bu38 bu39 bu40 bu41 bu42 bu43 bu44 A45 => ?_)
          have e46 : u2 = u33 := xk_eqi (q := 1) K30 rfl A14 A45 rfl rfl
          subst e46
          have e47 : u4 = u35 := xk_eqi (q := 18) K30 rfl A14 A45 rfl rfl
          subst e47
          show xw J ov (d + 7) 58 (87, [(0, .ref 115), (2, .int x2), (3, .int x3), (4, .int x4), (5, .int 9), (6, .int 2)], [.int r28], hh29) _
          by_cases c48 : r28.toInt = 0
          · refine xi_ift (pc' := 159) kc_58_87 rfl (xc_eq_t (X := r28.toInt) (Y := 0) rfl (by decide) (by omega)) ?_
            refine xi_iload (pc' := 161) (x := 9) kc_58_159 rfl rfl ?_
            refine xi_iconst (pc' := 162) (v := 3) kc_58_161 rfl rfl ?_
            refine xi_imul (pc' := 163) (v := 27) kc_58_162 rfl rfl ?_
            refine xi_istore (pc' := 165) (lv' := [(5, .int 27), (0, .ref 115), (2, .int x2), (3, .int x3), (4, .int x4), (6, .int 2)]) kc_58_163 rfl rfl (xm_lt ml_58 rfl) ?_
            refine xi_iinc (pc' := 168) (x := 2) (v := 3) (lv' := [(6, .int 3), (5, .int 27), (0, .ref 115), (2, .int x2), (3, .int x3), (4, .int x4)]) kc_58_165 rfl rfl rfl rfl (xm_lt ml_58 rfl) ?_
            refine xi_goto (pc' := 62) kc_58_168 rfl ?_
            have zc3 : (3 : Int32).toInt = 3 := by decide
            have zc27 : (27 : Int32).toInt = 27 := by decide
            refine xw_lv (b := [(0, .ref 115), (2, .int x2), (3, .int x3), (4, .int x4), (5, .int 27), (6, .int 3)]) (lvS_cons (lvS_cons (lvS_cons (lvS_cons (lvS_cons (lvS_cons (lvS_nil (show ([6, 5, 0, 2, 3, 4] : List Nat).Nodup by decide)) rfl) rfl) rfl) rfl) rfl) rfl) ?_
            exact i13 x2 x3 x4 hh29 (by omega) (by omega) K31 (by omega)
          · refine xi_iff (pc' := 90) kc_58_87 rfl (xc_eq_f (X := r28.toInt) (Y := 0) rfl (by decide) (by omega)) ?_
            refine xi_aload_n (pc' := 91) (x := 115) kc_58_90 rfl rfl ?_
            refine xi_getfield (pc' := 94) (v := .ref 155) kc_58_91 rfl rfl rfl A45 rfl ?_
            refine xi_iload_n (pc' := 95) (x := x3) kc_58_94 rfl rfl ?_
            refine xi_iload (pc' := 97) (x := 9) kc_58_95 rfl rfl ?_
            refine xcps2 (α := Int32) (x3 + 9) (fun v49 ev49 => ?_)
            have zv49 : v49.toInt = (x3.toInt + 9) := by rw [← ev49]; exact (xz_add (X := x3.toInt) (Y := 9) rfl (by decide) (by omega) (by omega)).trans (by omega)
            refine xi_iadd (pc' := 98) (v := v49) kc_58_97 rfl ev49 ?_
            have t50 : (-9) ≤ x3.toInt ∧ x3.toInt ≤ 6551 := by omega
            refine xcps4 (xk_arr K31.1 xD_155) (fun y51 A51 hy51 ry51 => ?_)
            refine xcps4 (xj_get hy51 ry51 (i := v49) (by rw [zv49]; omega) (by rw [zv49]; omega)) (fun v52 ev52 bv52 dv52 => ?_)
            refine xi_iaload (pc' := 99) (v := v52) kc_58_98 rfl A51 (by decide) rfl (xi_in (by rw [zv49]; omega) (by rw [hy51]; rw [zv49]; omega)) ev52 ?_
            refine xi_istore (pc' := 101) (lv' := [(7, .int v52), (0, .ref 115), (2, .int x2), (3, .int x3), (4, .int x4), (5, .int 9), (6, .int 2)]) kc_58_99 rfl rfl (xm_lt ml_58 rfl) ?_
            refine xi_aload_n (pc' := 102) (x := 115) kc_58_101 rfl rfl ?_
            refine xi_getfield (pc' := 105) (v := .ref 155) kc_58_102 rfl rfl rfl A45 rfl ?_
            refine xi_iload_n (pc' := 106) (x := x3) kc_58_105 rfl rfl ?_
            refine xi_iconst (pc' := 107) (v := 2) kc_58_106 rfl rfl ?_
            refine xi_iload (pc' := 109) (x := 9) kc_58_107 rfl rfl ?_
            refine xi_imul (pc' := 110) (v := 18) kc_58_109 rfl rfl ?_
            refine xcps2 (α := Int32) (x3 + 18) (fun v53 ev53 => ?_)
            have zv53 : v53.toInt = (x3.toInt + 18) := by rw [← ev53]; exact (xz_add (X := x3.toInt) (Y := 18) rfl (by decide) (by omega) (by omega)).trans (by omega)
            refine xi_iadd (pc' := 111) (v := v53) kc_58_110 rfl ev53 ?_
            have t54 : (-18) ≤ x3.toInt ∧ x3.toInt ≤ 6542 := by omega
            refine xcps4 (xj_get hy51 ry51 (i := v53) (by rw [zv53]; omega) (by rw [zv53]; omega)) (fun v55 ev55 bv55 dv55 => ?_)
            refine xi_iaload (pc' := 112) (v := v55) kc_58_111 rfl A51 (by decide) rfl (xi_in (by rw [zv53]; omega) (by rw [hy51]; rw [zv53]; omega)) ev55 ?_
            refine xi_istore (pc' := 114) (lv' := [(8, .int v55), (7, .int v52), (0, .ref 115), (2, .int x2), (3, .int x3), (4, .int x4), (5, .int 9), (6, .int 2)]) kc_58_112 rfl rfl (xm_lt ml_58 rfl) ?_
            refine xi_aload_n (pc' := 115) (x := 115) kc_58_114 rfl rfl ?_
            refine xi_getfield (pc' := 118) (v := .ref 153) kc_58_115 rfl rfl rfl A45 rfl ?_
            refine xi_iload (pc' := 120) (x := 2) kc_58_118 rfl rfl ?_
            refine xcps4 (xk_arr K31.1 xD_153) (fun y56 A56 hy56 ry56 => ?_)
            refine xcps4 (xj_get hy56 ry56 (i := 2) (by decide) (by decide)) (fun v57 ev57 bv57 dv57 => ?_)
            refine xi_iaload (pc' := 121) (v := v57) kc_58_120 rfl A56 (by decide) rfl (xi_in (by decide) (by rw [hy56]; decide)) ev57 ?_
            refine xi_iload (pc' := 123) (x := v52) kc_58_121 rfl rfl ?_
            refine xi_iload (pc' := 125) (x := v55) kc_58_123 rfl rfl ?_
            by_cases c58 : v52.toInt ≤ v55.toInt
            · refine xi_cmt (pc' := 133) kc_58_125 rfl (xc_le_t (X := v52.toInt) (Y := v55.toInt) rfl rfl (by omega)) ?_
              refine xi_iload (pc' := 135) (x := v55) kc_58_133 rfl rfl ?_
              refine xcps2 (α := Int32) ((v57 : Int32) + v55) (fun v59 ev59 => ?_)
              have rv59 := xc_rng v59
              refine xi_iadd (pc' := 136) (v := v59) kc_58_135 rfl ev59 ?_
              refine xi_istore (pc' := 138) (lv' := [(9, .int v59), (8, .int v55), (7, .int v52), (0, .ref 115), (2, .int x2), (3, .int x3), (4, .int x4), (5, .int 9), (6, .int 2)]) kc_58_136 rfl rfl (xm_lt ml_58 rfl) ?_
              refine xi_iload (pc' := 140) (x := x4) kc_58_138 rfl rfl ?_
              by_cases c60 : x4.toInt < 0
              · refine xi_ift (pc' := 150) kc_58_140 rfl (xc_lt_t (X := x4.toInt) (Y := 0) rfl (by decide) (by omega)) ?_
                refine xi_iload (pc' := 152) (x := v59) kc_58_150 rfl rfl ?_
                refine xi_goto (pc' := 157) kc_58_152 rfl ?_
                refine xi_istore (pc' := 159) (lv' := [(4, .int v59), (9, .int v59), (8, .int v55), (7, .int v52), (0, .ref 115), (2, .int x2), (3, .int x3), (5, .int 9), (6, .int 2)]) kc_58_157 rfl rfl (xm_lt ml_58 rfl) ?_
                refine xi_iload (pc' := 161) (x := 9) kc_58_159 rfl rfl ?_
                refine xi_iconst (pc' := 162) (v := 3) kc_58_161 rfl rfl ?_
                refine xi_imul (pc' := 163) (v := 27) kc_58_162 rfl rfl ?_
                refine xi_istore (pc' := 165) (lv' := [(5, .int 27), (4, .int v59), (9, .int v59), (8, .int v55), (7, .int v52), (0, .ref 115), (2, .int x2), (3, .int x3), (6, .int 2)]) kc_58_163 rfl rfl (xm_lt ml_58 rfl) ?_
                refine xi_iinc (pc' := 168) (x := 2) (v := 3) (lv' := [(6, .int 3), (5, .int 27), (4, .int v59), (9, .int v59), (8, .int v55), (7, .int v52), (0, .ref 115), (2, .int x2), (3, .int x3)]) kc_58_165 rfl rfl rfl rfl (xm_lt ml_58 rfl) ?_
                refine xi_goto (pc' := 62) kc_58_168 rfl ?_
                have zc3 : (3 : Int32).toInt = 3 := by decide
                have zc27 : (27 : Int32).toInt = 27 := by decide
                refine xw_lv (b := [(0, .ref 115), (2, .int x2), (3, .int x3), (4, .int v59), (5, .int 27), (6, .int 3)]) (lvS_cons (lvS_cons (lvS_cons (lvS_cons (lvS_cons (lvS_cons (lvS_nil (show ([6, 5, 4, 9, 8, 7, 0, 2, 3] : List Nat).Nodup by decide)) rfl) rfl) rfl) rfl) rfl) rfl) ?_
                exact i13 x2 x3 v59 hh29 (by omega) (by omega) K31 (by omega)
              · refine xi_iff (pc' := 143) kc_58_140 rfl (xc_lt_f (X := x4.toInt) (Y := 0) rfl (by decide) (by omega)) ?_
                refine xi_iload (pc' := 145) (x := v59) kc_58_143 rfl rfl ?_
                refine xi_iload (pc' := 147) (x := x4) kc_58_145 rfl rfl ?_
                by_cases c61 : x4.toInt ≤ v59.toInt
                · refine xi_cmt (pc' := 155) kc_58_147 rfl (xc_ge_t (X := v59.toInt) (Y := x4.toInt) rfl rfl (by omega)) ?_
                  refine xi_iload (pc' := 157) (x := x4) kc_58_155 rfl rfl ?_
                  refine xi_istore (pc' := 159) (lv' := [(4, .int x4), (9, .int v59), (8, .int v55), (7, .int v52), (0, .ref 115), (2, .int x2), (3, .int x3), (5, .int 9), (6, .int 2)]) kc_58_157 rfl rfl (xm_lt ml_58 rfl) ?_
                  refine xi_iload (pc' := 161) (x := 9) kc_58_159 rfl rfl ?_
                  refine xi_iconst (pc' := 162) (v := 3) kc_58_161 rfl rfl ?_
                  refine xi_imul (pc' := 163) (v := 27) kc_58_162 rfl rfl ?_
                  refine xi_istore (pc' := 165) (lv' := [(5, .int 27), (4, .int x4), (9, .int v59), (8, .int v55), (7, .int v52), (0, .ref 115), (2, .int x2), (3, .int x3), (6, .int 2)]) kc_58_163 rfl rfl (xm_lt ml_58 rfl) ?_
                  refine xi_iinc (pc' := 168) (x := 2) (v := 3) (lv' := [(6, .int 3), (5, .int 27), (4, .int x4), (9, .int v59), (8, .int v55), (7, .int v52), (0, .ref 115), (2, .int x2), (3, .int x3)]) kc_58_165 rfl rfl rfl rfl (xm_lt ml_58 rfl) ?_
                  refine xi_goto (pc' := 62) kc_58_168 rfl ?_
                  have zc3 : (3 : Int32).toInt = 3 := by decide
                  have zc27 : (27 : Int32).toInt = 27 := by decide
                  refine xw_lv (b := [(0, .ref 115), (2, .int x2), (3, .int x3), (4, .int x4), (5, .int 27), (6, .int 3)]) (lvS_cons (lvS_cons (lvS_cons (lvS_cons (lvS_cons (lvS_cons (lvS_nil (show ([6, 5, 4, 9, 8, 7, 0, 2, 3] : List Nat).Nodup by decide)) rfl) rfl) rfl) rfl) rfl) rfl) ?_
                  exact i13 x2 x3 x4 hh29 (by omega) (by omega) K31 (by omega)
                · refine xi_cmf (pc' := 150) kc_58_147 rfl (xc_ge_f (X := v59.toInt) (Y := x4.toInt) rfl rfl (by omega)) ?_
                  refine xi_iload (pc' := 152) (x := v59) kc_58_150 rfl rfl ?_
                  refine xi_goto (pc' := 157) kc_58_152 rfl ?_
                  refine xi_istore (pc' := 159) (lv' := [(4, .int v59), (9, .int v59), (8, .int v55), (7, .int v52), (0, .ref 115), (2, .int x2), (3, .int x3), (5, .int 9), (6, .int 2)]) kc_58_157 rfl rfl (xm_lt ml_58 rfl) ?_
                  refine xi_iload (pc' := 161) (x := 9) kc_58_159 rfl rfl ?_
                  refine xi_iconst (pc' := 162) (v := 3) kc_58_161 rfl rfl ?_
                  refine xi_imul (pc' := 163) (v := 27) kc_58_162 rfl rfl ?_
                  refine xi_istore (pc' := 165) (lv' := [(5, .int 27), (4, .int v59), (9, .int v59), (8, .int v55), (7, .int v52), (0, .ref 115), (2, .int x2), (3, .int x3), (6, .int 2)]) kc_58_163 rfl rfl (xm_lt ml_58 rfl) ?_
                  refine xi_iinc (pc' := 168) (x := 2) (v := 3) (lv' := [(6, .int 3), (5, .int 27), (4, .int v59), (9, .int v59), (8, .int v55), (7, .int v52), (0, .ref 115), (2, .int x2), (3, .int x3)]) kc_58_165 rfl rfl rfl rfl (xm_lt ml_58 rfl) ?_
                  refine xi_goto (pc' := 62) kc_58_168 rfl ?_
                  have zc3 : (3 : Int32).toInt = 3 := by decide
                  have zc27 : (27 : Int32).toInt = 27 := by decide
                  refine xw_lv (b := [(0, .ref 115), (2, .int x2), (3, .int x3), (4, .int v59), (5, .int 27), (6, .int 3)]) (lvS_cons (lvS_cons (lvS_cons (lvS_cons (lvS_cons (lvS_cons (lvS_nil (show ([6, 5, 4, 9, 8, 7, 0, 2, 3] : List Nat).Nodup by decide)) rfl) rfl) rfl) rfl) rfl) rfl) ?_
                  exact i13 x2 x3 v59 hh29 (by omega) (by omega) K31 (by omega)
            · refine xi_cmf (pc' := 128) kc_58_125 rfl (xc_le_f (X := v52.toInt) (Y := v55.toInt) rfl rfl (by omega)) ?_
              refine xi_iload (pc' := 130) (x := v52) kc_58_128 rfl rfl ?_
              refine xi_goto (pc' := 135) kc_58_130 rfl ?_
              refine xcps2 (α := Int32) ((v57 : Int32) + v52) (fun v62 ev62 => ?_)
              have rv62 := xc_rng v62
              refine xi_iadd (pc' := 136) (v := v62) kc_58_135 rfl ev62 ?_
              refine xi_istore (pc' := 138) (lv' := [(9, .int v62), (8, .int v55), (7, .int v52), (0, .ref 115), (2, .int x2), (3, .int x3), (4, .int x4), (5, .int 9), (6, .int 2)]) kc_58_136 rfl rfl (xm_lt ml_58 rfl) ?_
              refine xi_iload (pc' := 140) (x := x4) kc_58_138 rfl rfl ?_
              by_cases c63 : x4.toInt < 0
              · refine xi_ift (pc' := 150) kc_58_140 rfl (xc_lt_t (X := x4.toInt) (Y := 0) rfl (by decide) (by omega)) ?_
                refine xi_iload (pc' := 152) (x := v62) kc_58_150 rfl rfl ?_
                refine xi_goto (pc' := 157) kc_58_152 rfl ?_
                refine xi_istore (pc' := 159) (lv' := [(4, .int v62), (9, .int v62), (8, .int v55), (7, .int v52), (0, .ref 115), (2, .int x2), (3, .int x3), (5, .int 9), (6, .int 2)]) kc_58_157 rfl rfl (xm_lt ml_58 rfl) ?_
                refine xi_iload (pc' := 161) (x := 9) kc_58_159 rfl rfl ?_
                refine xi_iconst (pc' := 162) (v := 3) kc_58_161 rfl rfl ?_
                refine xi_imul (pc' := 163) (v := 27) kc_58_162 rfl rfl ?_
                refine xi_istore (pc' := 165) (lv' := [(5, .int 27), (4, .int v62), (9, .int v62), (8, .int v55), (7, .int v52), (0, .ref 115), (2, .int x2), (3, .int x3), (6, .int 2)]) kc_58_163 rfl rfl (xm_lt ml_58 rfl) ?_
                refine xi_iinc (pc' := 168) (x := 2) (v := 3) (lv' := [(6, .int 3), (5, .int 27), (4, .int v62), (9, .int v62), (8, .int v55), (7, .int v52), (0, .ref 115), (2, .int x2), (3, .int x3)]) kc_58_165 rfl rfl rfl rfl (xm_lt ml_58 rfl) ?_
                refine xi_goto (pc' := 62) kc_58_168 rfl ?_
                have zc3 : (3 : Int32).toInt = 3 := by decide
                have zc27 : (27 : Int32).toInt = 27 := by decide
                refine xw_lv (b := [(0, .ref 115), (2, .int x2), (3, .int x3), (4, .int v62), (5, .int 27), (6, .int 3)]) (lvS_cons (lvS_cons (lvS_cons (lvS_cons (lvS_cons (lvS_cons (lvS_nil (show ([6, 5, 4, 9, 8, 7, 0, 2, 3] : List Nat).Nodup by decide)) rfl) rfl) rfl) rfl) rfl) rfl) ?_
                exact i13 x2 x3 v62 hh29 (by omega) (by omega) K31 (by omega)
              · refine xi_iff (pc' := 143) kc_58_140 rfl (xc_lt_f (X := x4.toInt) (Y := 0) rfl (by decide) (by omega)) ?_
                refine xi_iload (pc' := 145) (x := v62) kc_58_143 rfl rfl ?_
                refine xi_iload (pc' := 147) (x := x4) kc_58_145 rfl rfl ?_
                by_cases c64 : x4.toInt ≤ v62.toInt
                · refine xi_cmt (pc' := 155) kc_58_147 rfl (xc_ge_t (X := v62.toInt) (Y := x4.toInt) rfl rfl (by omega)) ?_
                  refine xi_iload (pc' := 157) (x := x4) kc_58_155 rfl rfl ?_
                  refine xi_istore (pc' := 159) (lv' := [(4, .int x4), (9, .int v62), (8, .int v55), (7, .int v52), (0, .ref 115), (2, .int x2), (3, .int x3), (5, .int 9), (6, .int 2)]) kc_58_157 rfl rfl (xm_lt ml_58 rfl) ?_
                  refine xi_iload (pc' := 161) (x := 9) kc_58_159 rfl rfl ?_
                  refine xi_iconst (pc' := 162) (v := 3) kc_58_161 rfl rfl ?_
                  refine xi_imul (pc' := 163) (v := 27) kc_58_162 rfl rfl ?_
                  refine xi_istore (pc' := 165) (lv' := [(5, .int 27), (4, .int x4), (9, .int v62), (8, .int v55), (7, .int v52), (0, .ref 115), (2, .int x2), (3, .int x3), (6, .int 2)]) kc_58_163 rfl rfl (xm_lt ml_58 rfl) ?_
                  refine xi_iinc (pc' := 168) (x := 2) (v := 3) (lv' := [(6, .int 3), (5, .int 27), (4, .int x4), (9, .int v62), (8, .int v55), (7, .int v52), (0, .ref 115), (2, .int x2), (3, .int x3)]) kc_58_165 rfl rfl rfl rfl (xm_lt ml_58 rfl) ?_
                  refine xi_goto (pc' := 62) kc_58_168 rfl ?_
                  have zc3 : (3 : Int32).toInt = 3 := by decide
                  have zc27 : (27 : Int32).toInt = 27 := by decide
                  refine xw_lv (b := [(0, .ref 115), (2, .int x2), (3, .int x3), (4, .int x4), (5, .int 27), (6, .int 3)]) (lvS_cons (lvS_cons (lvS_cons (lvS_cons (lvS_cons (lvS_cons (lvS_nil (show ([6, 5, 4, 9, 8, 7, 0, 2, 3] : List Nat).Nodup by decide)) rfl) rfl) rfl) rfl) rfl) rfl) ?_
                  exact i13 x2 x3 x4 hh29 (by omega) (by omega) K31 (by omega)
                · refine xi_cmf (pc' := 150) kc_58_147 rfl (xc_ge_f (X := v62.toInt) (Y := x4.toInt) rfl rfl (by omega)) ?_
                  refine xi_iload (pc' := 152) (x := v62) kc_58_150 rfl rfl ?_
                  refine xi_goto (pc' := 157) kc_58_152 rfl ?_
                  refine xi_istore (pc' := 159) (lv' := [(4, .int v62), (9, .int v62), (8, .int v55), (7, .int v52), (0, .ref 115), (2, .int x2), (3, .int x3), (5, .int 9), (6, .int 2)]) kc_58_157 rfl rfl (xm_lt ml_58 rfl) ?_
                  refine xi_iload (pc' := 161) (x := 9) kc_58_159 rfl rfl ?_
                  refine xi_iconst (pc' := 162) (v := 3) kc_58_161 rfl rfl ?_
                  refine xi_imul (pc' := 163) (v := 27) kc_58_162 rfl rfl ?_
                  refine xi_istore (pc' := 165) (lv' := [(5, .int 27), (4, .int v62), (9, .int v62), (8, .int v55), (7, .int v52), (0, .ref 115), (2, .int x2), (3, .int x3), (6, .int 2)]) kc_58_163 rfl rfl (xm_lt ml_58 rfl) ?_
                  refine xi_iinc (pc' := 168) (x := 2) (v := 3) (lv' := [(6, .int 3), (5, .int 27), (4, .int v62), (9, .int v62), (8, .int v55), (7, .int v52), (0, .ref 115), (2, .int x2), (3, .int x3)]) kc_58_165 rfl rfl rfl rfl (xm_lt ml_58 rfl) ?_
                  refine xi_goto (pc' := 62) kc_58_168 rfl ?_
                  have zc3 : (3 : Int32).toInt = 3 := by decide
                  have zc27 : (27 : Int32).toInt = 27 := by decide
                  refine xw_lv (b := [(0, .ref 115), (2, .int x2), (3, .int x3), (4, .int v62), (5, .int 27), (6, .int 3)]) (lvS_cons (lvS_cons (lvS_cons (lvS_cons (lvS_cons (lvS_cons (lvS_nil (show ([6, 5, 4, 9, 8, 7, 0, 2, 3] : List Nat).Nodup by decide)) rfl) rfl) rfl) rfl) rfl) rfl) ?_
                  exact i13 x2 x3 v62 hh29 (by omega) (by omega) K31 (by omega)
        · refine xi_ift (pc' := 159) kc_58_77 rfl (xc_ne_t (X := v26.toInt) (Y := 0) rfl (by decide) (by omega)) ?_
          refine xi_iload (pc' := 161) (x := 9) kc_58_159 rfl rfl ?_
          refine xi_iconst (pc' := 162) (v := 3) kc_58_161 rfl rfl ?_
          refine xi_imul (pc' := 163) (v := 27) kc_58_162 rfl rfl ?_
          refine xi_istore (pc' := 165) (lv' := [(5, .int 27), (0, .ref 115), (2, .int x2), (3, .int x3), (4, .int x4), (6, .int 2)]) kc_58_163 rfl rfl (xm_lt ml_58 rfl) ?_
          refine xi_iinc (pc' := 168) (x := 2) (v := 3) (lv' := [(6, .int 3), (5, .int 27), (0, .ref 115), (2, .int x2), (3, .int x3), (4, .int x4)]) kc_58_165 rfl rfl rfl rfl (xm_lt ml_58 rfl) ?_
          refine xi_goto (pc' := 62) kc_58_168 rfl ?_
          have zc3 : (3 : Int32).toInt = 3 := by decide
          have zc27 : (27 : Int32).toInt = 27 := by decide
          refine xw_lv (b := [(0, .ref 115), (2, .int x2), (3, .int x3), (4, .int x4), (5, .int 27), (6, .int 3)]) (lvS_cons (lvS_cons (lvS_cons (lvS_cons (lvS_cons (lvS_cons (lvS_nil (show ([6, 5, 0, 2, 3, 4] : List Nat).Nodup by decide)) rfl) rfl) rfl) rfl) rfl) rfl) ?_
          exact i13 x2 x3 x4 h (by omega) (by omega) K (by omega)
    · intro x2 x3 x4 h b2 b3 K hm
      have rx4 := xc_rng x4
      refine xi_iload (pc' := 64) (x := 3) kc_58_62 rfl rfl ?_
      refine xi_aload_n (pc' := 65) (x := 115) kc_58_64 rfl rfl ?_
      refine xp_115 K.1 (fun u1 u2 u3 u4 u5 u6 u7 u8 u9 u10 u11 u12 u13 bu1 bu2 bu3 bu4 bu5 bu6 bu7 bu8 bu9 bu10 bu11 bu12 bu13 A14 => ?_)
      refine xi_getfield (pc' := 68) (v := .int u10) kc_58_65 rfl rfl rfl A14 rfl ?_
      by_cases c15 : u10.toInt ≤ 3
      · refine xi_cmt (pc' := 171) kc_58_68 rfl (xc_ge_t (X := 3) (Y := u10.toInt) (by decide) rfl (by omega)) ?_
        refine xi_aload_n (pc' := 172) (x := 115) kc_58_171 rfl rfl ?_
        refine xi_getfield (pc' := 175) (v := .ref 155) kc_58_172 rfl rfl rfl A14 rfl ?_
        refine xi_iload_n (pc' := 176) (x := x3) kc_58_175 rfl rfl ?_
        refine xi_iload (pc' := 178) (x := x4) kc_58_176 rfl rfl ?_
        by_cases c16 : 0 ≤ x4.toInt
        · refine xi_ift (pc' := 185) kc_58_178 rfl (xc_ge_t (X := x4.toInt) (Y := 0) rfl (by decide) (by omega)) ?_
          refine xi_iload (pc' := 187) (x := x4) kc_58_185 rfl rfl ?_
          refine xcps4 (xk_arr K.1 xD_155) (fun y17 A17 hy17 ry17 => ?_)
          refine xcps4 (xj_set (v := x4) hy17 ry17 x3 (by first | omega | decide) (by first | omega | decide)) (fun y18 s18 hy18 ry18 => ?_)
          refine xi_iastore (pc' := 188) (x' := y18) kc_58_187 rfl A17 rfl (xi_in (by omega) (by rw [hy17]; omega)) s18 (fun hh18 eh18 => ?_)
          have K19 := xk_pa K (xk_wa rfl) xD_155 hy18 ry18 eh18
          refine xcps2 (α := Int32) (x3 + (-1)) (fun v20 ev20 => ?_)
          have zv20 : v20.toInt = (x3.toInt + (-1)) := by rw [← ev20]; exact (xz_add (X := x3.toInt) (Y := (-1)) rfl (by decide) (by omega) (by omega)).trans (by omega)
          refine xi_iinc (pc' := 191) (x := x3) (v := v20) (lv' := [(3, .int v20), (0, .ref 115), (2, .int x2), (4, .int x4), (5, .int 27), (6, .int 3)]) kc_58_188 rfl rfl ev20 rfl (xm_lt ml_58 rfl) ?_
          refine xi_goto (pc' := 48) kc_58_191 rfl ?_
          refine xw_lv (b := [(0, .ref 115), (2, .int x2), (3, .int v20)]) (lvS_cons (lvS_cons (lvS_cons (lvS_nil (show ([3, 0, 2, 4, 5, 6] : List Nat).Nodup by decide)) rfl) rfl) rfl) ?_
          exact i9 x2 v20 hh18 (by omega) (by omega) K19 (by omega)
        · refine xi_iff (pc' := 181) kc_58_178 rfl (xc_ge_f (X := x4.toInt) (Y := 0) rfl (by decide) (by omega)) ?_
          refine xi_iconst (pc' := 182) (v := 0) kc_58_181 rfl rfl ?_
          refine xi_goto (pc' := 187) kc_58_182 rfl ?_
          refine xcps4 (xk_arr K.1 xD_155) (fun y21 A21 hy21 ry21 => ?_)
          refine xcps4 (xj_set (v := 0) hy21 ry21 x3 (by first | omega | decide) (by first | omega | decide)) (fun y22 s22 hy22 ry22 => ?_)
          refine xi_iastore (pc' := 188) (x' := y22) kc_58_187 rfl A21 rfl (xi_in (by omega) (by rw [hy21]; omega)) s22 (fun hh22 eh22 => ?_)
          have K23 := xk_pa K (xk_wa rfl) xD_155 hy22 ry22 eh22
          refine xcps2 (α := Int32) (x3 + (-1)) (fun v24 ev24 => ?_)
          have zv24 : v24.toInt = (x3.toInt + (-1)) := by rw [← ev24]; exact (xz_add (X := x3.toInt) (Y := (-1)) rfl (by decide) (by omega) (by omega)).trans (by omega)
          refine xi_iinc (pc' := 191) (x := x3) (v := v24) (lv' := [(3, .int v24), (0, .ref 115), (2, .int x2), (4, .int x4), (5, .int 27), (6, .int 3)]) kc_58_188 rfl rfl ev24 rfl (xm_lt ml_58 rfl) ?_
          refine xi_goto (pc' := 48) kc_58_191 rfl ?_
          refine xw_lv (b := [(0, .ref 115), (2, .int x2), (3, .int v24)]) (lvS_cons (lvS_cons (lvS_cons (lvS_nil (show ([3, 0, 2, 4, 5, 6] : List Nat).Nodup by decide)) rfl) rfl) rfl) ?_
          exact i9 x2 v24 hh22 (by omega) (by omega) K23 (by omega)
      · refine xi_cmf (pc' := 71) kc_58_68 rfl (xc_ge_f (X := 3) (Y := u10.toInt) (by decide) rfl (by omega)) ?_
        refine xi_iload_n (pc' := 72) (x := x3) kc_58_71 rfl rfl ?_
        refine xi_iload (pc' := 74) (x := 27) kc_58_72 rfl rfl ?_
        refine xcps2 (α := Int32) (x3 / 27) (fun v25 ev25 => ?_)
        have dv25 : v25.toInt = x3.toInt / 27 := by rw [← ev25]; exact xz_dive (X := x3.toInt) (Y := 27) rfl (by decide) (by omega) (by decide)
        have bv25 : 0 ≤ v25.toInt ∧ v25.toInt ≤ 242 := by omega
        refine xi_idiv (pc' := 75) (v := v25) kc_58_74 rfl ev25 (by decide) ?_
        refine xi_iconst (pc' := 76) (v := 3) kc_58_75 rfl rfl ?_
        refine xcps2 (α := Int32) (v25 - v25 / 3 * 3) (fun v26 ev26 => ?_)
        have dv26 : v26.toInt = v25.toInt % 3 := by rw [← ev26]; exact xz_reme (X := v25.toInt) (Y := 3) rfl (by decide) (by omega) (by decide)
        have bv26 : 0 ≤ v26.toInt ∧ v26.toInt ≤ 2 := by omega
        refine xi_irem (pc' := 77) (v := v26) kc_58_76 rfl ev26 (by decide) ?_
        by_cases c27 : v26.toInt = 0
        · refine xi_iff (pc' := 80) kc_58_77 rfl (xc_ne_f (X := v26.toInt) (Y := 0) rfl (by decide) (by omega)) ?_
          refine xi_aload_n (pc' := 81) (x := 115) kc_58_80 rfl rfl ?_
          refine xi_iload_n (pc' := 82) (x := x3) kc_58_81 rfl rfl ?_
          refine xi_iload (pc' := 84) (x := 3) kc_58_82 rfl rfl ?_
          refine xi_virtual (mj := 59) (as := [.int x3, .int 3]) (st1 := []) (lv0 := [(0, .ref 115), (1, .int x3), (2, .int 3)]) kc_58_84 rfl rfl rfl rfl rfl A14 (Nat.le_of_ble_eq_true rfl) (hJ _ _ _ _ (by decide)) (xm_le ml_59 rfl) rfl ?_
          have zc3 : (3 : Int32).toInt = 3 := by decide
          refine mt_59_0 hJ hov1 hov2 (d := d + 3) (x1 := x3) (x2 := 3) K.1 (by first | omega | decide) (by first | omega | decide) (fun r28 hh29 br28 K30 => ?_)
          have K31 := xk_tr K K30 rfl
          refine xp_115 K31.1 (fun u32 u33 u34 u35 u36 u37 u38 u39 u40 u41 u42 u43 u44 bu32 bu33 bu34 bu35 bu36 bu37 bu38 bu39 bu40 bu41 bu42 bu43 bu44 A45 => ?_)
          have e46 : u2 = u33 := xk_eqi (q := 1) K30 rfl A14 A45 rfl rfl
          subst e46
          have e47 : u4 = u35 := xk_eqi (q := 18) K30 rfl A14 A45 rfl rfl
          subst e47
          show xw J ov (d + 7) 58 (87, [(0, .ref 115), (2, .int x2), (3, .int x3), (4, .int x4), (5, .int 27), (6, .int 3)], [.int r28], hh29) _
          by_cases c48 : r28.toInt = 0
          · refine xi_ift (pc' := 159) kc_58_87 rfl (xc_eq_t (X := r28.toInt) (Y := 0) rfl (by decide) (by omega)) ?_
            refine xi_iload (pc' := 161) (x := 27) kc_58_159 rfl rfl ?_
            refine xi_iconst (pc' := 162) (v := 3) kc_58_161 rfl rfl ?_
            refine xi_imul (pc' := 163) (v := 81) kc_58_162 rfl rfl ?_
            refine xi_istore (pc' := 165) (lv' := [(5, .int 81), (0, .ref 115), (2, .int x2), (3, .int x3), (4, .int x4), (6, .int 3)]) kc_58_163 rfl rfl (xm_lt ml_58 rfl) ?_
            refine xi_iinc (pc' := 168) (x := 3) (v := 4) (lv' := [(6, .int 4), (5, .int 81), (0, .ref 115), (2, .int x2), (3, .int x3), (4, .int x4)]) kc_58_165 rfl rfl rfl rfl (xm_lt ml_58 rfl) ?_
            refine xi_goto (pc' := 62) kc_58_168 rfl ?_
            have zc4 : (4 : Int32).toInt = 4 := by decide
            have zc81 : (81 : Int32).toInt = 81 := by decide
            refine xw_lv (b := [(0, .ref 115), (2, .int x2), (3, .int x3), (4, .int x4), (5, .int 81), (6, .int 4)]) (lvS_cons (lvS_cons (lvS_cons (lvS_cons (lvS_cons (lvS_cons (lvS_nil (show ([6, 5, 0, 2, 3, 4] : List Nat).Nodup by decide)) rfl) rfl) rfl) rfl) rfl) rfl) ?_
            exact i14 x2 x3 x4 hh29 (by omega) (by omega) K31 (by omega)
          · refine xi_iff (pc' := 90) kc_58_87 rfl (xc_eq_f (X := r28.toInt) (Y := 0) rfl (by decide) (by omega)) ?_
            refine xi_aload_n (pc' := 91) (x := 115) kc_58_90 rfl rfl ?_
            refine xi_getfield (pc' := 94) (v := .ref 155) kc_58_91 rfl rfl rfl A45 rfl ?_
            refine xi_iload_n (pc' := 95) (x := x3) kc_58_94 rfl rfl ?_
            refine xi_iload (pc' := 97) (x := 27) kc_58_95 rfl rfl ?_
            refine xcps2 (α := Int32) (x3 + 27) (fun v49 ev49 => ?_)
            have zv49 : v49.toInt = (x3.toInt + 27) := by rw [← ev49]; exact (xz_add (X := x3.toInt) (Y := 27) rfl (by decide) (by omega) (by omega)).trans (by omega)
            refine xi_iadd (pc' := 98) (v := v49) kc_58_97 rfl ev49 ?_
            have t50 : (-27) ≤ x3.toInt ∧ x3.toInt ≤ 6533 := by omega
            refine xcps4 (xk_arr K31.1 xD_155) (fun y51 A51 hy51 ry51 => ?_)
            refine xcps4 (xj_get hy51 ry51 (i := v49) (by rw [zv49]; omega) (by rw [zv49]; omega)) (fun v52 ev52 bv52 dv52 => ?_)
            refine xi_iaload (pc' := 99) (v := v52) kc_58_98 rfl A51 (by decide) rfl (xi_in (by rw [zv49]; omega) (by rw [hy51]; rw [zv49]; omega)) ev52 ?_
            refine xi_istore (pc' := 101) (lv' := [(7, .int v52), (0, .ref 115), (2, .int x2), (3, .int x3), (4, .int x4), (5, .int 27), (6, .int 3)]) kc_58_99 rfl rfl (xm_lt ml_58 rfl) ?_
            refine xi_aload_n (pc' := 102) (x := 115) kc_58_101 rfl rfl ?_
            refine xi_getfield (pc' := 105) (v := .ref 155) kc_58_102 rfl rfl rfl A45 rfl ?_
            refine xi_iload_n (pc' := 106) (x := x3) kc_58_105 rfl rfl ?_
            refine xi_iconst (pc' := 107) (v := 2) kc_58_106 rfl rfl ?_
            refine xi_iload (pc' := 109) (x := 27) kc_58_107 rfl rfl ?_
            refine xi_imul (pc' := 110) (v := 54) kc_58_109 rfl rfl ?_
            refine xcps2 (α := Int32) (x3 + 54) (fun v53 ev53 => ?_)
            have zv53 : v53.toInt = (x3.toInt + 54) := by rw [← ev53]; exact (xz_add (X := x3.toInt) (Y := 54) rfl (by decide) (by omega) (by omega)).trans (by omega)
            refine xi_iadd (pc' := 111) (v := v53) kc_58_110 rfl ev53 ?_
            have t54 : (-54) ≤ x3.toInt ∧ x3.toInt ≤ 6506 := by omega
            refine xcps4 (xj_get hy51 ry51 (i := v53) (by rw [zv53]; omega) (by rw [zv53]; omega)) (fun v55 ev55 bv55 dv55 => ?_)
            refine xi_iaload (pc' := 112) (v := v55) kc_58_111 rfl A51 (by decide) rfl (xi_in (by rw [zv53]; omega) (by rw [hy51]; rw [zv53]; omega)) ev55 ?_
            refine xi_istore (pc' := 114) (lv' := [(8, .int v55), (7, .int v52), (0, .ref 115), (2, .int x2), (3, .int x3), (4, .int x4), (5, .int 27), (6, .int 3)]) kc_58_112 rfl rfl (xm_lt ml_58 rfl) ?_
            refine xi_aload_n (pc' := 115) (x := 115) kc_58_114 rfl rfl ?_
            refine xi_getfield (pc' := 118) (v := .ref 153) kc_58_115 rfl rfl rfl A45 rfl ?_
            refine xi_iload (pc' := 120) (x := 3) kc_58_118 rfl rfl ?_
            refine xcps4 (xk_arr K31.1 xD_153) (fun y56 A56 hy56 ry56 => ?_)
            refine xcps4 (xj_get hy56 ry56 (i := 3) (by decide) (by decide)) (fun v57 ev57 bv57 dv57 => ?_)
            refine xi_iaload (pc' := 121) (v := v57) kc_58_120 rfl A56 (by decide) rfl (xi_in (by decide) (by rw [hy56]; decide)) ev57 ?_
            refine xi_iload (pc' := 123) (x := v52) kc_58_121 rfl rfl ?_
            refine xi_iload (pc' := 125) (x := v55) kc_58_123 rfl rfl ?_
            by_cases c58 : v52.toInt ≤ v55.toInt
            · refine xi_cmt (pc' := 133) kc_58_125 rfl (xc_le_t (X := v52.toInt) (Y := v55.toInt) rfl rfl (by omega)) ?_
              refine xi_iload (pc' := 135) (x := v55) kc_58_133 rfl rfl ?_
              refine xcps2 (α := Int32) ((v57 : Int32) + v55) (fun v59 ev59 => ?_)
              have rv59 := xc_rng v59
              refine xi_iadd (pc' := 136) (v := v59) kc_58_135 rfl ev59 ?_
              refine xi_istore (pc' := 138) (lv' := [(9, .int v59), (8, .int v55), (7, .int v52), (0, .ref 115), (2, .int x2), (3, .int x3), (4, .int x4), (5, .int 27), (6, .int 3)]) kc_58_136 rfl rfl (xm_lt ml_58 rfl) ?_
              refine xi_iload (pc' := 140) (x := x4) kc_58_138 rfl rfl ?_
              by_cases c60 : x4.toInt < 0
              · refine xi_ift (pc' := 150) kc_58_140 rfl (xc_lt_t (X := x4.toInt) (Y := 0) rfl (by decide) (by omega)) ?_
                refine xi_iload (pc' := 152) (x := v59) kc_58_150 rfl rfl ?_
                refine xi_goto (pc' := 157) kc_58_152 rfl ?_
                refine xi_istore (pc' := 159) (lv' := [(4, .int v59), (9, .int v59), (8, .int v55), (7, .int v52), (0, .ref 115), (2, .int x2), (3, .int x3), (5, .int 27), (6, .int 3)]) kc_58_157 rfl rfl (xm_lt ml_58 rfl) ?_
                refine xi_iload (pc' := 161) (x := 27) kc_58_159 rfl rfl ?_
                refine xi_iconst (pc' := 162) (v := 3) kc_58_161 rfl rfl ?_
                refine xi_imul (pc' := 163) (v := 81) kc_58_162 rfl rfl ?_
                refine xi_istore (pc' := 165) (lv' := [(5, .int 81), (4, .int v59), (9, .int v59), (8, .int v55), (7, .int v52), (0, .ref 115), (2, .int x2), (3, .int x3), (6, .int 3)]) kc_58_163 rfl rfl (xm_lt ml_58 rfl) ?_
                refine xi_iinc (pc' := 168) (x := 3) (v := 4) (lv' := [(6, .int 4), (5, .int 81), (4, .int v59), (9, .int v59), (8, .int v55), (7, .int v52), (0, .ref 115), (2, .int x2), (3, .int x3)]) kc_58_165 rfl rfl rfl rfl (xm_lt ml_58 rfl) ?_
                refine xi_goto (pc' := 62) kc_58_168 rfl ?_
                have zc4 : (4 : Int32).toInt = 4 := by decide
                have zc81 : (81 : Int32).toInt = 81 := by decide
                refine xw_lv (b := [(0, .ref 115), (2, .int x2), (3, .int x3), (4, .int v59), (5, .int 81), (6, .int 4)]) (lvS_cons (lvS_cons (lvS_cons (lvS_cons (lvS_cons (lvS_cons (lvS_nil (show ([6, 5, 4, 9, 8, 7, 0, 2, 3] : List Nat).Nodup by decide)) rfl) rfl) rfl) rfl) rfl) rfl) ?_
                exact i14 x2 x3 v59 hh29 (by omega) (by omega) K31 (by omega)
              · refine xi_iff (pc' := 143) kc_58_140 rfl (xc_lt_f (X := x4.toInt) (Y := 0) rfl (by decide) (by omega)) ?_
                refine xi_iload (pc' := 145) (x := v59) kc_58_143 rfl rfl ?_
                refine xi_iload (pc' := 147) (x := x4) kc_58_145 rfl rfl ?_
                by_cases c61 : x4.toInt ≤ v59.toInt
                · refine xi_cmt (pc' := 155) kc_58_147 rfl (xc_ge_t (X := v59.toInt) (Y := x4.toInt) rfl rfl (by omega)) ?_
                  refine xi_iload (pc' := 157) (x := x4) kc_58_155 rfl rfl ?_
                  refine xi_istore (pc' := 159) (lv' := [(4, .int x4), (9, .int v59), (8, .int v55), (7, .int v52), (0, .ref 115), (2, .int x2), (3, .int x3), (5, .int 27), (6, .int 3)]) kc_58_157 rfl rfl (xm_lt ml_58 rfl) ?_
                  refine xi_iload (pc' := 161) (x := 27) kc_58_159 rfl rfl ?_
                  refine xi_iconst (pc' := 162) (v := 3) kc_58_161 rfl rfl ?_
                  refine xi_imul (pc' := 163) (v := 81) kc_58_162 rfl rfl ?_
                  refine xi_istore (pc' := 165) (lv' := [(5, .int 81), (4, .int x4), (9, .int v59), (8, .int v55), (7, .int v52), (0, .ref 115), (2, .int x2), (3, .int x3), (6, .int 3)]) kc_58_163 rfl rfl (xm_lt ml_58 rfl) ?_
                  refine xi_iinc (pc' := 168) (x := 3) (v := 4) (lv' := [(6, .int 4), (5, .int 81), (4, .int x4), (9, .int v59), (8, .int v55), (7, .int v52), (0, .ref 115), (2, .int x2), (3, .int x3)]) kc_58_165 rfl rfl rfl rfl (xm_lt ml_58 rfl) ?_
                  refine xi_goto (pc' := 62) kc_58_168 rfl ?_
                  have zc4 : (4 : Int32).toInt = 4 := by decide
                  have zc81 : (81 : Int32).toInt = 81 := by decide
                  refine xw_lv (b := [(0, .ref 115), (2, .int x2), (3, .int x3), (4, .int x4), (5, .int 81), (6, .int 4)]) (lvS_cons (lvS_cons (lvS_cons (lvS_cons (lvS_cons (lvS_cons (lvS_nil (show ([6, 5, 4, 9, 8, 7, 0, 2, 3] : List Nat).Nodup by decide)) rfl) rfl) rfl) rfl) rfl) rfl) ?_
                  exact i14 x2 x3 x4 hh29 (by omega) (by omega) K31 (by omega)
                · refine xi_cmf (pc' := 150) kc_58_147 rfl (xc_ge_f (X := v59.toInt) (Y := x4.toInt) rfl rfl (by omega)) ?_
                  refine xi_iload (pc' := 152) (x := v59) kc_58_150 rfl rfl ?_
                  refine xi_goto (pc' := 157) kc_58_152 rfl ?_
                  refine xi_istore (pc' := 159) (lv' := [(4, .int v59), (9, .int v59), (8, .int v55), (7, .int v52), (0, .ref 115), (2, .int x2), (3, .int x3), (5, .int 27), (6, .int 3)]) kc_58_157 rfl rfl (xm_lt ml_58 rfl) ?_
                  refine xi_iload (pc' := 161) (x := 27) kc_58_159 rfl rfl ?_
                  refine xi_iconst (pc' := 162) (v := 3) kc_58_161 rfl rfl ?_
                  refine xi_imul (pc' := 163) (v := 81) kc_58_162 rfl rfl ?_
                  refine xi_istore (pc' := 165) (lv' := [(5, .int 81), (4, .int v59), (9, .int v59), (8, .int v55), (7, .int v52), (0, .ref 115), (2, .int x2), (3, .int x3), (6, .int 3)]) kc_58_163 rfl rfl (xm_lt ml_58 rfl) ?_
                  refine xi_iinc (pc' := 168) (x := 3) (v := 4) (lv' := [(6, .int 4), (5, .int 81), (4, .int v59), (9, .int v59), (8, .int v55), (7, .int v52), (0, .ref 115), (2, .int x2), (3, .int x3)]) kc_58_165 rfl rfl rfl rfl (xm_lt ml_58 rfl) ?_
                  refine xi_goto (pc' := 62) kc_58_168 rfl ?_
                  have zc4 : (4 : Int32).toInt = 4 := by decide
                  have zc81 : (81 : Int32).toInt = 81 := by decide
                  refine xw_lv (b := [(0, .ref 115), (2, .int x2), (3, .int x3), (4, .int v59), (5, .int 81), (6, .int 4)]) (lvS_cons (lvS_cons (lvS_cons (lvS_cons (lvS_cons (lvS_cons (lvS_nil (show ([6, 5, 4, 9, 8, 7, 0, 2, 3] : List Nat).Nodup by decide)) rfl) rfl) rfl) rfl) rfl) rfl) ?_
                  exact i14 x2 x3 v59 hh29 (by omega) (by omega) K31 (by omega)
            · refine xi_cmf (pc' := 128) kc_58_125 rfl (xc_le_f (X := v52.toInt) (Y := v55.toInt) rfl rfl (by omega)) ?_
              refine xi_iload (pc' := 130) (x := v52) kc_58_128 rfl rfl ?_
              refine xi_goto (pc' := 135) kc_58_130 rfl ?_
              refine xcps2 (α := Int32) ((v57 : Int32) + v52) (fun v62 ev62 => ?_)
              have rv62 := xc_rng v62
              refine xi_iadd (pc' := 136) (v := v62) kc_58_135 rfl ev62 ?_
              refine xi_istore (pc' := 138) (lv' := [(9, .int v62), (8, .int v55), (7, .int v52), (0, .ref 115), (2, .int x2), (3, .int x3), (4, .int x4), (5, .int 27), (6, .int 3)]) kc_58_136 rfl rfl (xm_lt ml_58 rfl) ?_
              refine xi_iload (pc' := 140) (x := x4) kc_58_138 rfl rfl ?_
              by_cases c63 : x4.toInt < 0
              · refine xi_ift (pc' := 150) kc_58_140 rfl (xc_lt_t (X := x4.toInt) (Y := 0) rfl (by decide) (by omega)) ?_
                refine xi_iload (pc' := 152) (x := v62) kc_58_150 rfl rfl ?_
                refine xi_goto (pc' := 157) kc_58_152 rfl ?_
                refine xi_istore (pc' := 159) (lv' := [(4, .int v62), (9, .int v62), (8, .int v55), (7, .int v52), (0, .ref 115), (2, .int x2), (3, .int x3), (5, .int 27), (6, .int 3)]) kc_58_157 rfl rfl (xm_lt ml_58 rfl) ?_
                refine xi_iload (pc' := 161) (x := 27) kc_58_159 rfl rfl ?_
                refine xi_iconst (pc' := 162) (v := 3) kc_58_161 rfl rfl ?_
                refine xi_imul (pc' := 163) (v := 81) kc_58_162 rfl rfl ?_
                refine xi_istore (pc' := 165) (lv' := [(5, .int 81), (4, .int v62), (9, .int v62), (8, .int v55), (7, .int v52), (0, .ref 115), (2, .int x2), (3, .int x3), (6, .int 3)]) kc_58_163 rfl rfl (xm_lt ml_58 rfl) ?_
                refine xi_iinc (pc' := 168) (x := 3) (v := 4) (lv' := [(6, .int 4), (5, .int 81), (4, .int v62), (9, .int v62), (8, .int v55), (7, .int v52), (0, .ref 115), (2, .int x2), (3, .int x3)]) kc_58_165 rfl rfl rfl rfl (xm_lt ml_58 rfl) ?_
                refine xi_goto (pc' := 62) kc_58_168 rfl ?_
                have zc4 : (4 : Int32).toInt = 4 := by decide
                have zc81 : (81 : Int32).toInt = 81 := by decide
                refine xw_lv (b := [(0, .ref 115), (2, .int x2), (3, .int x3), (4, .int v62), (5, .int 81), (6, .int 4)]) (lvS_cons (lvS_cons (lvS_cons (lvS_cons (lvS_cons (lvS_cons (lvS_nil (show ([6, 5, 4, 9, 8, 7, 0, 2, 3] : List Nat).Nodup by decide)) rfl) rfl) rfl) rfl) rfl) rfl) ?_
                exact i14 x2 x3 v62 hh29 (by omega) (by omega) K31 (by omega)
              · refine xi_iff (pc' := 143) kc_58_140 rfl (xc_lt_f (X := x4.toInt) (Y := 0) rfl (by decide) (by omega)) ?_
                refine xi_iload (pc' := 145) (x := v62) kc_58_143 rfl rfl ?_
                refine xi_iload (pc' := 147) (x := x4) kc_58_145 rfl rfl ?_
                by_cases c64 : x4.toInt ≤ v62.toInt
                · refine xi_cmt (pc' := 155) kc_58_147 rfl (xc_ge_t (X := v62.toInt) (Y := x4.toInt) rfl rfl (by omega)) ?_
                  refine xi_iload (pc' := 157) (x := x4) kc_58_155 rfl rfl ?_
                  refine xi_istore (pc' := 159) (lv' := [(4, .int x4), (9, .int v62), (8, .int v55), (7, .int v52), (0, .ref 115), (2, .int x2), (3, .int x3), (5, .int 27), (6, .int 3)]) kc_58_157 rfl rfl (xm_lt ml_58 rfl) ?_
                  refine xi_iload (pc' := 161) (x := 27) kc_58_159 rfl rfl ?_
                  refine xi_iconst (pc' := 162) (v := 3) kc_58_161 rfl rfl ?_
                  refine xi_imul (pc' := 163) (v := 81) kc_58_162 rfl rfl ?_
                  refine xi_istore (pc' := 165) (lv' := [(5, .int 81), (4, .int x4), (9, .int v62), (8, .int v55), (7, .int v52), (0, .ref 115), (2, .int x2), (3, .int x3), (6, .int 3)]) kc_58_163 rfl rfl (xm_lt ml_58 rfl) ?_
                  refine xi_iinc (pc' := 168) (x := 3) (v := 4) (lv' := [(6, .int 4), (5, .int 81), (4, .int x4), (9, .int v62), (8, .int v55), (7, .int v52), (0, .ref 115), (2, .int x2), (3, .int x3)]) kc_58_165 rfl rfl rfl rfl (xm_lt ml_58 rfl) ?_
                  refine xi_goto (pc' := 62) kc_58_168 rfl ?_
                  have zc4 : (4 : Int32).toInt = 4 := by decide
                  have zc81 : (81 : Int32).toInt = 81 := by decide
                  refine xw_lv (b := [(0, .ref 115), (2, .int x2), (3, .int x3), (4, .int x4), (5, .int 81), (6, .int 4)]) (lvS_cons (lvS_cons (lvS_cons (lvS_cons (lvS_cons (lvS_cons (lvS_nil (show ([6, 5, 4, 9, 8, 7, 0, 2, 3] : List Nat).Nodup by decide)) rfl) rfl) rfl) rfl) rfl) rfl) ?_
                  exact i14 x2 x3 x4 hh29 (by omega) (by omega) K31 (by omega)
                · refine xi_cmf (pc' := 150) kc_58_147 rfl (xc_ge_f (X := v62.toInt) (Y := x4.toInt) rfl rfl (by omega)) ?_
                  refine xi_iload (pc' := 152) (x := v62) kc_58_150 rfl rfl ?_
                  refine xi_goto (pc' := 157) kc_58_152 rfl ?_
                  refine xi_istore (pc' := 159) (lv' := [(4, .int v62), (9, .int v62), (8, .int v55), (7, .int v52), (0, .ref 115), (2, .int x2), (3, .int x3), (5, .int 27), (6, .int 3)]) kc_58_157 rfl rfl (xm_lt ml_58 rfl) ?_
                  refine xi_iload (pc' := 161) (x := 27) kc_58_159 rfl rfl ?_
                  refine xi_iconst (pc' := 162) (v := 3) kc_58_161 rfl rfl ?_
                  refine xi_imul (pc' := 163) (v := 81) kc_58_162 rfl rfl ?_
                  refine xi_istore (pc' := 165) (lv' := [(5, .int 81), (4, .int v62), (9, .int v62), (8, .int v55), (7, .int v52), (0, .ref 115), (2, .int x2), (3, .int x3), (6, .int 3)]) kc_58_163 rfl rfl (xm_lt ml_58 rfl) ?_
                  refine xi_iinc (pc' := 168) (x := 3) (v := 4) (lv' := [(6, .int 4), (5, .int 81), (4, .int v62), (9, .int v62), (8, .int v55), (7, .int v52), (0, .ref 115), (2, .int x2), (3, .int x3)]) kc_58_165 rfl rfl rfl rfl (xm_lt ml_58 rfl) ?_
                  refine xi_goto (pc' := 62) kc_58_168 rfl ?_
                  have zc4 : (4 : Int32).toInt = 4 := by decide
                  have zc81 : (81 : Int32).toInt = 81 := by decide
                  refine xw_lv (b := [(0, .ref 115), (2, .int x2), (3, .int x3), (4, .int v62), (5, .int 81), (6, .int 4)]) (lvS_cons (lvS_cons (lvS_cons (lvS_cons (lvS_cons (lvS_cons (lvS_nil (show ([6, 5, 4, 9, 8, 7, 0, 2, 3] : List Nat).Nodup by decide)) rfl) rfl) rfl) rfl) rfl) rfl) ?_
                  exact i14 x2 x3 v62 hh29 (by omega) (by omega) K31 (by omega)
        · refine xi_ift (pc' := 159) kc_58_77 rfl (xc_ne_t (X := v26.toInt) (Y := 0) rfl (by decide) (by omega)) ?_
          refine xi_iload (pc' := 161) (x := 27) kc_58_159 rfl rfl ?_
          refine xi_iconst (pc' := 162) (v := 3) kc_58_161 rfl rfl ?_
          refine xi_imul (pc' := 163) (v := 81) kc_58_162 rfl rfl ?_
          refine xi_istore (pc' := 165) (lv' := [(5, .int 81), (0, .ref 115), (2, .int x2), (3, .int x3), (4, .int x4), (6, .int 3)]) kc_58_163 rfl rfl (xm_lt ml_58 rfl) ?_
          refine xi_iinc (pc' := 168) (x := 3) (v := 4) (lv' := [(6, .int 4), (5, .int 81), (0, .ref 115), (2, .int x2), (3, .int x3), (4, .int x4)]) kc_58_165 rfl rfl rfl rfl (xm_lt ml_58 rfl) ?_
          refine xi_goto (pc' := 62) kc_58_168 rfl ?_
          have zc4 : (4 : Int32).toInt = 4 := by decide
          have zc81 : (81 : Int32).toInt = 81 := by decide
          refine xw_lv (b := [(0, .ref 115), (2, .int x2), (3, .int x3), (4, .int x4), (5, .int 81), (6, .int 4)]) (lvS_cons (lvS_cons (lvS_cons (lvS_cons (lvS_cons (lvS_cons (lvS_nil (show ([6, 5, 0, 2, 3, 4] : List Nat).Nodup by decide)) rfl) rfl) rfl) rfl) rfl) rfl) ?_
          exact i14 x2 x3 x4 h (by omega) (by omega) K (by omega)
    · intro x2 x3 x4 h b2 b3 K hm
      have rx4 := xc_rng x4
      refine xi_iload (pc' := 64) (x := 4) kc_58_62 rfl rfl ?_
      refine xi_aload_n (pc' := 65) (x := 115) kc_58_64 rfl rfl ?_
      refine xp_115 K.1 (fun u1 u2 u3 u4 u5 u6 u7 u8 u9 u10 u11 u12 u13 bu1 bu2 bu3 bu4 bu5 bu6 bu7 bu8 bu9 bu10 bu11 bu12 bu13 A14 => ?_)
      refine xi_getfield (pc' := 68) (v := .int u10) kc_58_65 rfl rfl rfl A14 rfl ?_
      by_cases c15 : u10.toInt ≤ 4
      · refine xi_cmt (pc' := 171) kc_58_68 rfl (xc_ge_t (X := 4) (Y := u10.toInt) (by decide) rfl (by omega)) ?_
        refine xi_aload_n (pc' := 172) (x := 115) kc_58_171 rfl rfl ?_
        refine xi_getfield (pc' := 175) (v := .ref 155) kc_58_172 rfl rfl rfl A14 rfl ?_
        refine xi_iload_n (pc' := 176) (x := x3) kc_58_175 rfl rfl ?_
        refine xi_iload (pc' := 178) (x := x4) kc_58_176 rfl rfl ?_
        by_cases c16 : 0 ≤ x4.toInt
        · refine xi_ift (pc' := 185) kc_58_178 rfl (xc_ge_t (X := x4.toInt) (Y := 0) rfl (by decide) (by omega)) ?_
          refine xi_iload (pc' := 187) (x := x4) kc_58_185 rfl rfl ?_
          refine xcps4 (xk_arr K.1 xD_155) (fun y17 A17 hy17 ry17 => ?_)
          refine xcps4 (xj_set (v := x4) hy17 ry17 x3 (by first | omega | decide) (by first | omega | decide)) (fun y18 s18 hy18 ry18 => ?_)
          refine xi_iastore (pc' := 188) (x' := y18) kc_58_187 rfl A17 rfl (xi_in (by omega) (by rw [hy17]; omega)) s18 (fun hh18 eh18 => ?_)
          have K19 := xk_pa K (xk_wa rfl) xD_155 hy18 ry18 eh18
          refine xcps2 (α := Int32) (x3 + (-1)) (fun v20 ev20 => ?_)
          have zv20 : v20.toInt = (x3.toInt + (-1)) := by rw [← ev20]; exact (xz_add (X := x3.toInt) (Y := (-1)) rfl (by decide) (by omega) (by omega)).trans (by omega)
          refine xi_iinc (pc' := 191) (x := x3) (v := v20) (lv' := [(3, .int v20), (0, .ref 115), (2, .int x2), (4, .int x4), (5, .int 81), (6, .int 4)]) kc_58_188 rfl rfl ev20 rfl (xm_lt ml_58 rfl) ?_
          refine xi_goto (pc' := 48) kc_58_191 rfl ?_
          refine xw_lv (b := [(0, .ref 115), (2, .int x2), (3, .int v20)]) (lvS_cons (lvS_cons (lvS_cons (lvS_nil (show ([3, 0, 2, 4, 5, 6] : List Nat).Nodup by decide)) rfl) rfl) rfl) ?_
          exact i9 x2 v20 hh18 (by omega) (by omega) K19 (by omega)
        · refine xi_iff (pc' := 181) kc_58_178 rfl (xc_ge_f (X := x4.toInt) (Y := 0) rfl (by decide) (by omega)) ?_
          refine xi_iconst (pc' := 182) (v := 0) kc_58_181 rfl rfl ?_
          refine xi_goto (pc' := 187) kc_58_182 rfl ?_
          refine xcps4 (xk_arr K.1 xD_155) (fun y21 A21 hy21 ry21 => ?_)
          refine xcps4 (xj_set (v := 0) hy21 ry21 x3 (by first | omega | decide) (by first | omega | decide)) (fun y22 s22 hy22 ry22 => ?_)
          refine xi_iastore (pc' := 188) (x' := y22) kc_58_187 rfl A21 rfl (xi_in (by omega) (by rw [hy21]; omega)) s22 (fun hh22 eh22 => ?_)
          have K23 := xk_pa K (xk_wa rfl) xD_155 hy22 ry22 eh22
          refine xcps2 (α := Int32) (x3 + (-1)) (fun v24 ev24 => ?_)
          have zv24 : v24.toInt = (x3.toInt + (-1)) := by rw [← ev24]; exact (xz_add (X := x3.toInt) (Y := (-1)) rfl (by decide) (by omega) (by omega)).trans (by omega)
          refine xi_iinc (pc' := 191) (x := x3) (v := v24) (lv' := [(3, .int v24), (0, .ref 115), (2, .int x2), (4, .int x4), (5, .int 81), (6, .int 4)]) kc_58_188 rfl rfl ev24 rfl (xm_lt ml_58 rfl) ?_
          refine xi_goto (pc' := 48) kc_58_191 rfl ?_
          refine xw_lv (b := [(0, .ref 115), (2, .int x2), (3, .int v24)]) (lvS_cons (lvS_cons (lvS_cons (lvS_nil (show ([3, 0, 2, 4, 5, 6] : List Nat).Nodup by decide)) rfl) rfl) rfl) ?_
          exact i9 x2 v24 hh22 (by omega) (by omega) K23 (by omega)
      · refine xi_cmf (pc' := 71) kc_58_68 rfl (xc_ge_f (X := 4) (Y := u10.toInt) (by decide) rfl (by omega)) ?_
        refine xi_iload_n (pc' := 72) (x := x3) kc_58_71 rfl rfl ?_
        refine xi_iload (pc' := 74) (x := 81) kc_58_72 rfl rfl ?_
        refine xcps2 (α := Int32) (x3 / 81) (fun v25 ev25 => ?_)
        have dv25 : v25.toInt = x3.toInt / 81 := by rw [← ev25]; exact xz_dive (X := x3.toInt) (Y := 81) rfl (by decide) (by omega) (by decide)
        have bv25 : 0 ≤ v25.toInt ∧ v25.toInt ≤ 80 := by omega
        refine xi_idiv (pc' := 75) (v := v25) kc_58_74 rfl ev25 (by decide) ?_
        refine xi_iconst (pc' := 76) (v := 3) kc_58_75 rfl rfl ?_
        refine xcps2 (α := Int32) (v25 - v25 / 3 * 3) (fun v26 ev26 => ?_)
        have dv26 : v26.toInt = v25.toInt % 3 := by rw [← ev26]; exact xz_reme (X := v25.toInt) (Y := 3) rfl (by decide) (by omega) (by decide)
        have bv26 : 0 ≤ v26.toInt ∧ v26.toInt ≤ 2 := by omega
        refine xi_irem (pc' := 77) (v := v26) kc_58_76 rfl ev26 (by decide) ?_
        by_cases c27 : v26.toInt = 0
        · refine xi_iff (pc' := 80) kc_58_77 rfl (xc_ne_f (X := v26.toInt) (Y := 0) rfl (by decide) (by omega)) ?_
          refine xi_aload_n (pc' := 81) (x := 115) kc_58_80 rfl rfl ?_
          refine xi_iload_n (pc' := 82) (x := x3) kc_58_81 rfl rfl ?_
          refine xi_iload (pc' := 84) (x := 4) kc_58_82 rfl rfl ?_
          refine xi_virtual (mj := 59) (as := [.int x3, .int 4]) (st1 := []) (lv0 := [(0, .ref 115), (1, .int x3), (2, .int 4)]) kc_58_84 rfl rfl rfl rfl rfl A14 (Nat.le_of_ble_eq_true rfl) (hJ _ _ _ _ (by decide)) (xm_le ml_59 rfl) rfl ?_
          have zc4 : (4 : Int32).toInt = 4 := by decide
          refine mt_59_0 hJ hov1 hov2 (d := d + 3) (x1 := x3) (x2 := 4) K.1 (by first | omega | decide) (by first | omega | decide) (fun r28 hh29 br28 K30 => ?_)
          have K31 := xk_tr K K30 rfl
          refine xp_115 K31.1 (fun u32 u33 u34 u35 u36 u37 u38 u39 u40 u41 u42 u43 u44 bu32 bu33 bu34 bu35 bu36 bu37 bu38 bu39 bu40 bu41 bu42 bu43 bu44 A45 => ?_)
          have e46 : u2 = u33 := xk_eqi (q := 1) K30 rfl A14 A45 rfl rfl
          subst e46
          have e47 : u4 = u35 := xk_eqi (q := 18) K30 rfl A14 A45 rfl rfl
          subst e47
          show xw J ov (d + 7) 58 (87, [(0, .ref 115), (2, .int x2), (3, .int x3), (4, .int x4), (5, .int 81), (6, .int 4)], [.int r28], hh29) _
          by_cases c48 : r28.toInt = 0
          · refine xi_ift (pc' := 159) kc_58_87 rfl (xc_eq_t (X := r28.toInt) (Y := 0) rfl (by decide) (by omega)) ?_
            refine xi_iload (pc' := 161) (x := 81) kc_58_159 rfl rfl ?_
            refine xi_iconst (pc' := 162) (v := 3) kc_58_161 rfl rfl ?_
            refine xi_imul (pc' := 163) (v := 243) kc_58_162 rfl rfl ?_
            refine xi_istore (pc' := 165) (lv' := [(5, .int 243), (0, .ref 115), (2, .int x2), (3, .int x3), (4, .int x4), (6, .int 4)]) kc_58_163 rfl rfl (xm_lt ml_58 rfl) ?_
            refine xi_iinc (pc' := 168) (x := 4) (v := 5) (lv' := [(6, .int 5), (5, .int 243), (0, .ref 115), (2, .int x2), (3, .int x3), (4, .int x4)]) kc_58_165 rfl rfl rfl rfl (xm_lt ml_58 rfl) ?_
            refine xi_goto (pc' := 62) kc_58_168 rfl ?_
            have zc5 : (5 : Int32).toInt = 5 := by decide
            have zc243 : (243 : Int32).toInt = 243 := by decide
            refine xw_lv (b := [(0, .ref 115), (2, .int x2), (3, .int x3), (4, .int x4), (5, .int 243), (6, .int 5)]) (lvS_cons (lvS_cons (lvS_cons (lvS_cons (lvS_cons (lvS_cons (lvS_nil (show ([6, 5, 0, 2, 3, 4] : List Nat).Nodup by decide)) rfl) rfl) rfl) rfl) rfl) rfl) ?_
            exact i15 x2 x3 x4 hh29 (by omega) (by omega) K31 (by omega)
          · refine xi_iff (pc' := 90) kc_58_87 rfl (xc_eq_f (X := r28.toInt) (Y := 0) rfl (by decide) (by omega)) ?_
            refine xi_aload_n (pc' := 91) (x := 115) kc_58_90 rfl rfl ?_
            refine xi_getfield (pc' := 94) (v := .ref 155) kc_58_91 rfl rfl rfl A45 rfl ?_
            refine xi_iload_n (pc' := 95) (x := x3) kc_58_94 rfl rfl ?_
            refine xi_iload (pc' := 97) (x := 81) kc_58_95 rfl rfl ?_
            refine xcps2 (α := Int32) (x3 + 81) (fun v49 ev49 => ?_)
            have zv49 : v49.toInt = (x3.toInt + 81) := by rw [← ev49]; exact (xz_add (X := x3.toInt) (Y := 81) rfl (by decide) (by omega) (by omega)).trans (by omega)
            refine xi_iadd (pc' := 98) (v := v49) kc_58_97 rfl ev49 ?_
            have t50 : (-81) ≤ x3.toInt ∧ x3.toInt ≤ 6479 := by omega
            refine xcps4 (xk_arr K31.1 xD_155) (fun y51 A51 hy51 ry51 => ?_)
            refine xcps4 (xj_get hy51 ry51 (i := v49) (by rw [zv49]; omega) (by rw [zv49]; omega)) (fun v52 ev52 bv52 dv52 => ?_)
            refine xi_iaload (pc' := 99) (v := v52) kc_58_98 rfl A51 (by decide) rfl (xi_in (by rw [zv49]; omega) (by rw [hy51]; rw [zv49]; omega)) ev52 ?_
            refine xi_istore (pc' := 101) (lv' := [(7, .int v52), (0, .ref 115), (2, .int x2), (3, .int x3), (4, .int x4), (5, .int 81), (6, .int 4)]) kc_58_99 rfl rfl (xm_lt ml_58 rfl) ?_
            refine xi_aload_n (pc' := 102) (x := 115) kc_58_101 rfl rfl ?_
            refine xi_getfield (pc' := 105) (v := .ref 155) kc_58_102 rfl rfl rfl A45 rfl ?_
            refine xi_iload_n (pc' := 106) (x := x3) kc_58_105 rfl rfl ?_
            refine xi_iconst (pc' := 107) (v := 2) kc_58_106 rfl rfl ?_
            refine xi_iload (pc' := 109) (x := 81) kc_58_107 rfl rfl ?_
            refine xi_imul (pc' := 110) (v := 162) kc_58_109 rfl rfl ?_
            refine xcps2 (α := Int32) (x3 + 162) (fun v53 ev53 => ?_)
            have zv53 : v53.toInt = (x3.toInt + 162) := by rw [← ev53]; exact (xz_add (X := x3.toInt) (Y := 162) rfl (by decide) (by omega) (by omega)).trans (by omega)
            refine xi_iadd (pc' := 111) (v := v53) kc_58_110 rfl ev53 ?_
            have t54 : (-162) ≤ x3.toInt ∧ x3.toInt ≤ 6398 := by omega
            refine xcps4 (xj_get hy51 ry51 (i := v53) (by rw [zv53]; omega) (by rw [zv53]; omega)) (fun v55 ev55 bv55 dv55 => ?_)
            refine xi_iaload (pc' := 112) (v := v55) kc_58_111 rfl A51 (by decide) rfl (xi_in (by rw [zv53]; omega) (by rw [hy51]; rw [zv53]; omega)) ev55 ?_
            refine xi_istore (pc' := 114) (lv' := [(8, .int v55), (7, .int v52), (0, .ref 115), (2, .int x2), (3, .int x3), (4, .int x4), (5, .int 81), (6, .int 4)]) kc_58_112 rfl rfl (xm_lt ml_58 rfl) ?_
            refine xi_aload_n (pc' := 115) (x := 115) kc_58_114 rfl rfl ?_
            refine xi_getfield (pc' := 118) (v := .ref 153) kc_58_115 rfl rfl rfl A45 rfl ?_
            refine xi_iload (pc' := 120) (x := 4) kc_58_118 rfl rfl ?_
            refine xcps4 (xk_arr K31.1 xD_153) (fun y56 A56 hy56 ry56 => ?_)
            refine xcps4 (xj_get hy56 ry56 (i := 4) (by decide) (by decide)) (fun v57 ev57 bv57 dv57 => ?_)
            refine xi_iaload (pc' := 121) (v := v57) kc_58_120 rfl A56 (by decide) rfl (xi_in (by decide) (by rw [hy56]; decide)) ev57 ?_
            refine xi_iload (pc' := 123) (x := v52) kc_58_121 rfl rfl ?_
            refine xi_iload (pc' := 125) (x := v55) kc_58_123 rfl rfl ?_
            by_cases c58 : v52.toInt ≤ v55.toInt
            · refine xi_cmt (pc' := 133) kc_58_125 rfl (xc_le_t (X := v52.toInt) (Y := v55.toInt) rfl rfl (by omega)) ?_
              refine xi_iload (pc' := 135) (x := v55) kc_58_133 rfl rfl ?_
              refine xcps2 (α := Int32) ((v57 : Int32) + v55) (fun v59 ev59 => ?_)
              have rv59 := xc_rng v59
              refine xi_iadd (pc' := 136) (v := v59) kc_58_135 rfl ev59 ?_
              refine xi_istore (pc' := 138) (lv' := [(9, .int v59), (8, .int v55), (7, .int v52), (0, .ref 115), (2, .int x2), (3, .int x3), (4, .int x4), (5, .int 81), (6, .int 4)]) kc_58_136 rfl rfl (xm_lt ml_58 rfl) ?_
              refine xi_iload (pc' := 140) (x := x4) kc_58_138 rfl rfl ?_
              by_cases c60 : x4.toInt < 0
              · refine xi_ift (pc' := 150) kc_58_140 rfl (xc_lt_t (X := x4.toInt) (Y := 0) rfl (by decide) (by omega)) ?_
                refine xi_iload (pc' := 152) (x := v59) kc_58_150 rfl rfl ?_
                refine xi_goto (pc' := 157) kc_58_152 rfl ?_
                refine xi_istore (pc' := 159) (lv' := [(4, .int v59), (9, .int v59), (8, .int v55), (7, .int v52), (0, .ref 115), (2, .int x2), (3, .int x3), (5, .int 81), (6, .int 4)]) kc_58_157 rfl rfl (xm_lt ml_58 rfl) ?_
                refine xi_iload (pc' := 161) (x := 81) kc_58_159 rfl rfl ?_
                refine xi_iconst (pc' := 162) (v := 3) kc_58_161 rfl rfl ?_
                refine xi_imul (pc' := 163) (v := 243) kc_58_162 rfl rfl ?_
                refine xi_istore (pc' := 165) (lv' := [(5, .int 243), (4, .int v59), (9, .int v59), (8, .int v55), (7, .int v52), (0, .ref 115), (2, .int x2), (3, .int x3), (6, .int 4)]) kc_58_163 rfl rfl (xm_lt ml_58 rfl) ?_
                refine xi_iinc (pc' := 168) (x := 4) (v := 5) (lv' := [(6, .int 5), (5, .int 243), (4, .int v59), (9, .int v59), (8, .int v55), (7, .int v52), (0, .ref 115), (2, .int x2), (3, .int x3)]) kc_58_165 rfl rfl rfl rfl (xm_lt ml_58 rfl) ?_
                refine xi_goto (pc' := 62) kc_58_168 rfl ?_
                have zc5 : (5 : Int32).toInt = 5 := by decide
                have zc243 : (243 : Int32).toInt = 243 := by decide
                refine xw_lv (b := [(0, .ref 115), (2, .int x2), (3, .int x3), (4, .int v59), (5, .int 243), (6, .int 5)]) (lvS_cons (lvS_cons (lvS_cons (lvS_cons (lvS_cons (lvS_cons (lvS_nil (show ([6, 5, 4, 9, 8, 7, 0, 2, 3] : List Nat).Nodup by decide)) rfl) rfl) rfl) rfl) rfl) rfl) ?_
                exact i15 x2 x3 v59 hh29 (by omega) (by omega) K31 (by omega)
              · refine xi_iff (pc' := 143) kc_58_140 rfl (xc_lt_f (X := x4.toInt) (Y := 0) rfl (by decide) (by omega)) ?_
                refine xi_iload (pc' := 145) (x := v59) kc_58_143 rfl rfl ?_
                refine xi_iload (pc' := 147) (x := x4) kc_58_145 rfl rfl ?_
                by_cases c61 : x4.toInt ≤ v59.toInt
                · refine xi_cmt (pc' := 155) kc_58_147 rfl (xc_ge_t (X := v59.toInt) (Y := x4.toInt) rfl rfl (by omega)) ?_
                  refine xi_iload (pc' := 157) (x := x4) kc_58_155 rfl rfl ?_
                  refine xi_istore (pc' := 159) (lv' := [(4, .int x4), (9, .int v59), (8, .int v55), (7, .int v52), (0, .ref 115), (2, .int x2), (3, .int x3), (5, .int 81), (6, .int 4)]) kc_58_157 rfl rfl (xm_lt ml_58 rfl) ?_
                  refine xi_iload (pc' := 161) (x := 81) kc_58_159 rfl rfl ?_
                  refine xi_iconst (pc' := 162) (v := 3) kc_58_161 rfl rfl ?_
                  refine xi_imul (pc' := 163) (v := 243) kc_58_162 rfl rfl ?_
                  refine xi_istore (pc' := 165) (lv' := [(5, .int 243), (4, .int x4), (9, .int v59), (8, .int v55), (7, .int v52), (0, .ref 115), (2, .int x2), (3, .int x3), (6, .int 4)]) kc_58_163 rfl rfl (xm_lt ml_58 rfl) ?_
                  refine xi_iinc (pc' := 168) (x := 4) (v := 5) (lv' := [(6, .int 5), (5, .int 243), (4, .int x4), (9, .int v59), (8, .int v55), (7, .int v52), (0, .ref 115), (2, .int x2), (3, .int x3)]) kc_58_165 rfl rfl rfl rfl (xm_lt ml_58 rfl) ?_
                  refine xi_goto (pc' := 62) kc_58_168 rfl ?_
                  have zc5 : (5 : Int32).toInt = 5 := by decide
                  have zc243 : (243 : Int32).toInt = 243 := by decide
                  refine xw_lv (b := [(0, .ref 115), (2, .int x2), (3, .int x3), (4, .int x4), (5, .int 243), (6, .int 5)]) (lvS_cons (lvS_cons (lvS_cons (lvS_cons (lvS_cons (lvS_cons (lvS_nil (show ([6, 5, 4, 9, 8, 7, 0, 2, 3] : List Nat).Nodup by decide)) rfl) rfl) rfl) rfl) rfl) rfl) ?_
                  exact i15 x2 x3 x4 hh29 (by omega) (by omega) K31 (by omega)
                · refine xi_cmf (pc' := 150) kc_58_147 rfl (xc_ge_f (X := v59.toInt) (Y := x4.toInt) rfl rfl (by omega)) ?_
                  refine xi_iload (pc' := 152) (x := v59) kc_58_150 rfl rfl ?_
                  refine xi_goto (pc' := 157) kc_58_152 rfl ?_
                  refine xi_istore (pc' := 159) (lv' := [(4, .int v59), (9, .int v59), (8, .int v55), (7, .int v52), (0, .ref 115), (2, .int x2), (3, .int x3), (5, .int 81), (6, .int 4)]) kc_58_157 rfl rfl (xm_lt ml_58 rfl) ?_
                  refine xi_iload (pc' := 161) (x := 81) kc_58_159 rfl rfl ?_
                  refine xi_iconst (pc' := 162) (v := 3) kc_58_161 rfl rfl ?_
                  refine xi_imul (pc' := 163) (v := 243) kc_58_162 rfl rfl ?_
                  refine xi_istore (pc' := 165) (lv' := [(5, .int 243), (4, .int v59), (9, .int v59), (8, .int v55), (7, .int v52), (0, .ref 115), (2, .int x2), (3, .int x3), (6, .int 4)]) kc_58_163 rfl rfl (xm_lt ml_58 rfl) ?_
                  refine xi_iinc (pc' := 168) (x := 4) (v := 5) (lv' := [(6, .int 5), (5, .int 243), (4, .int v59), (9, .int v59), (8, .int v55), (7, .int v52), (0, .ref 115), (2, .int x2), (3, .int x3)]) kc_58_165 rfl rfl rfl rfl (xm_lt ml_58 rfl) ?_
                  refine xi_goto (pc' := 62) kc_58_168 rfl ?_
                  have zc5 : (5 : Int32).toInt = 5 := by decide
                  have zc243 : (243 : Int32).toInt = 243 := by decide
                  refine xw_lv (b := [(0, .ref 115), (2, .int x2), (3, .int x3), (4, .int v59), (5, .int 243), (6, .int 5)]) (lvS_cons (lvS_cons (lvS_cons (lvS_cons (lvS_cons (lvS_cons (lvS_nil (show ([6, 5, 4, 9, 8, 7, 0, 2, 3] : List Nat).Nodup by decide)) rfl) rfl) rfl) rfl) rfl) rfl) ?_
                  exact i15 x2 x3 v59 hh29 (by omega) (by omega) K31 (by omega)
            · refine xi_cmf (pc' := 128) kc_58_125 rfl (xc_le_f (X := v52.toInt) (Y := v55.toInt) rfl rfl (by omega)) ?_
              refine xi_iload (pc' := 130) (x := v52) kc_58_128 rfl rfl ?_
              refine xi_goto (pc' := 135) kc_58_130 rfl ?_
              refine xcps2 (α := Int32) ((v57 : Int32) + v52) (fun v62 ev62 => ?_)
              have rv62 := xc_rng v62
              refine xi_iadd (pc' := 136) (v := v62) kc_58_135 rfl ev62 ?_
              refine xi_istore (pc' := 138) (lv' := [(9, .int v62), (8, .int v55), (7, .int v52), (0, .ref 115), (2, .int x2), (3, .int x3), (4, .int x4), (5, .int 81), (6, .int 4)]) kc_58_136 rfl rfl (xm_lt ml_58 rfl) ?_
              refine xi_iload (pc' := 140) (x := x4) kc_58_138 rfl rfl ?_
              by_cases c63 : x4.toInt < 0
              · refine xi_ift (pc' := 150) kc_58_140 rfl (xc_lt_t (X := x4.toInt) (Y := 0) rfl (by decide) (by omega)) ?_
                refine xi_iload (pc' := 152) (x := v62) kc_58_150 rfl rfl ?_
                refine xi_goto (pc' := 157) kc_58_152 rfl ?_
                refine xi_istore (pc' := 159) (lv' := [(4, .int v62), (9, .int v62), (8, .int v55), (7, .int v52), (0, .ref 115), (2, .int x2), (3, .int x3), (5, .int 81), (6, .int 4)]) kc_58_157 rfl rfl (xm_lt ml_58 rfl) ?_
                refine xi_iload (pc' := 161) (x := 81) kc_58_159 rfl rfl ?_
                refine xi_iconst (pc' := 162) (v := 3) kc_58_161 rfl rfl ?_
                refine xi_imul (pc' := 163) (v := 243) kc_58_162 rfl rfl ?_
                refine xi_istore (pc' := 165) (lv' := [(5, .int 243), (4, .int v62), (9, .int v62), (8, .int v55), (7, .int v52), (0, .ref 115), (2, .int x2), (3, .int x3), (6, .int 4)]) kc_58_163 rfl rfl (xm_lt ml_58 rfl) ?_
                refine xi_iinc (pc' := 168) (x := 4) (v := 5) (lv' := [(6, .int 5), (5, .int 243), (4, .int v62), (9, .int v62), (8, .int v55), (7, .int v52), (0, .ref 115), (2, .int x2), (3, .int x3)]) kc_58_165 rfl rfl rfl rfl (xm_lt ml_58 rfl) ?_
                refine xi_goto (pc' := 62) kc_58_168 rfl ?_
                have zc5 : (5 : Int32).toInt = 5 := by decide
                have zc243 : (243 : Int32).toInt = 243 := by decide
                refine xw_lv (b := [(0, .ref 115), (2, .int x2), (3, .int x3), (4, .int v62), (5, .int 243), (6, .int 5)]) (lvS_cons (lvS_cons (lvS_cons (lvS_cons (lvS_cons (lvS_cons (lvS_nil (show ([6, 5, 4, 9, 8, 7, 0, 2, 3] : List Nat).Nodup by decide)) rfl) rfl) rfl) rfl) rfl) rfl) ?_
                exact i15 x2 x3 v62 hh29 (by omega) (by omega) K31 (by omega)
              · refine xi_iff (pc' := 143) kc_58_140 rfl (xc_lt_f (X := x4.toInt) (Y := 0) rfl (by decide) (by omega)) ?_
                refine xi_iload (pc' := 145) (x := v62) kc_58_143 rfl rfl ?_
                refine xi_iload (pc' := 147) (x := x4) kc_58_145 rfl rfl ?_
                by_cases c64 : x4.toInt ≤ v62.toInt
                · refine xi_cmt (pc' := 155) kc_58_147 rfl (xc_ge_t (X := v62.toInt) (Y := x4.toInt) rfl rfl (by omega)) ?_
                  refine xi_iload (pc' := 157) (x := x4) kc_58_155 rfl rfl ?_
                  refine xi_istore (pc' := 159) (lv' := [(4, .int x4), (9, .int v62), (8, .int v55), (7, .int v52), (0, .ref 115), (2, .int x2), (3, .int x3), (5, .int 81), (6, .int 4)]) kc_58_157 rfl rfl (xm_lt ml_58 rfl) ?_
                  refine xi_iload (pc' := 161) (x := 81) kc_58_159 rfl rfl ?_
                  refine xi_iconst (pc' := 162) (v := 3) kc_58_161 rfl rfl ?_
                  refine xi_imul (pc' := 163) (v := 243) kc_58_162 rfl rfl ?_
                  refine xi_istore (pc' := 165) (lv' := [(5, .int 243), (4, .int x4), (9, .int v62), (8, .int v55), (7, .int v52), (0, .ref 115), (2, .int x2), (3, .int x3), (6, .int 4)]) kc_58_163 rfl rfl (xm_lt ml_58 rfl) ?_
                  refine xi_iinc (pc' := 168) (x := 4) (v := 5) (lv' := [(6, .int 5), (5, .int 243), (4, .int x4), (9, .int v62), (8, .int v55), (7, .int v52), (0, .ref 115), (2, .int x2), (3, .int x3)]) kc_58_165 rfl rfl rfl rfl (xm_lt ml_58 rfl) ?_
                  refine xi_goto (pc' := 62) kc_58_168 rfl ?_
                  have zc5 : (5 : Int32).toInt = 5 := by decide
                  have zc243 : (243 : Int32).toInt = 243 := by decide
                  refine xw_lv (b := [(0, .ref 115), (2, .int x2), (3, .int x3), (4, .int x4), (5, .int 243), (6, .int 5)]) (lvS_cons (lvS_cons (lvS_cons (lvS_cons (lvS_cons (lvS_cons (lvS_nil (show ([6, 5, 4, 9, 8, 7, 0, 2, 3] : List Nat).Nodup by decide)) rfl) rfl) rfl) rfl) rfl) rfl) ?_
                  exact i15 x2 x3 x4 hh29 (by omega) (by omega) K31 (by omega)
                · refine xi_cmf (pc' := 150) kc_58_147 rfl (xc_ge_f (X := v62.toInt) (Y := x4.toInt) rfl rfl (by omega)) ?_
                  refine xi_iload (pc' := 152) (x := v62) kc_58_150 rfl rfl ?_
                  refine xi_goto (pc' := 157) kc_58_152 rfl ?_
                  refine xi_istore (pc' := 159) (lv' := [(4, .int v62), (9, .int v62), (8, .int v55), (7, .int v52), (0, .ref 115), (2, .int x2), (3, .int x3), (5, .int 81), (6, .int 4)]) kc_58_157 rfl rfl (xm_lt ml_58 rfl) ?_
                  refine xi_iload (pc' := 161) (x := 81) kc_58_159 rfl rfl ?_
                  refine xi_iconst (pc' := 162) (v := 3) kc_58_161 rfl rfl ?_
                  refine xi_imul (pc' := 163) (v := 243) kc_58_162 rfl rfl ?_
                  refine xi_istore (pc' := 165) (lv' := [(5, .int 243), (4, .int v62), (9, .int v62), (8, .int v55), (7, .int v52), (0, .ref 115), (2, .int x2), (3, .int x3), (6, .int 4)]) kc_58_163 rfl rfl (xm_lt ml_58 rfl) ?_
                  refine xi_iinc (pc' := 168) (x := 4) (v := 5) (lv' := [(6, .int 5), (5, .int 243), (4, .int v62), (9, .int v62), (8, .int v55), (7, .int v52), (0, .ref 115), (2, .int x2), (3, .int x3)]) kc_58_165 rfl rfl rfl rfl (xm_lt ml_58 rfl) ?_
                  refine xi_goto (pc' := 62) kc_58_168 rfl ?_
                  have zc5 : (5 : Int32).toInt = 5 := by decide
                  have zc243 : (243 : Int32).toInt = 243 := by decide
                  refine xw_lv (b := [(0, .ref 115), (2, .int x2), (3, .int x3), (4, .int v62), (5, .int 243), (6, .int 5)]) (lvS_cons (lvS_cons (lvS_cons (lvS_cons (lvS_cons (lvS_cons (lvS_nil (show ([6, 5, 4, 9, 8, 7, 0, 2, 3] : List Nat).Nodup by decide)) rfl) rfl) rfl) rfl) rfl) rfl) ?_
                  exact i15 x2 x3 v62 hh29 (by omega) (by omega) K31 (by omega)
        · refine xi_ift (pc' := 159) kc_58_77 rfl (xc_ne_t (X := v26.toInt) (Y := 0) rfl (by decide) (by omega)) ?_
          refine xi_iload (pc' := 161) (x := 81) kc_58_159 rfl rfl ?_
          refine xi_iconst (pc' := 162) (v := 3) kc_58_161 rfl rfl ?_
          refine xi_imul (pc' := 163) (v := 243) kc_58_162 rfl rfl ?_
          refine xi_istore (pc' := 165) (lv' := [(5, .int 243), (0, .ref 115), (2, .int x2), (3, .int x3), (4, .int x4), (6, .int 4)]) kc_58_163 rfl rfl (xm_lt ml_58 rfl) ?_
          refine xi_iinc (pc' := 168) (x := 4) (v := 5) (lv' := [(6, .int 5), (5, .int 243), (0, .ref 115), (2, .int x2), (3, .int x3), (4, .int x4)]) kc_58_165 rfl rfl rfl rfl (xm_lt ml_58 rfl) ?_
          refine xi_goto (pc' := 62) kc_58_168 rfl ?_
          have zc5 : (5 : Int32).toInt = 5 := by decide
          have zc243 : (243 : Int32).toInt = 243 := by decide
          refine xw_lv (b := [(0, .ref 115), (2, .int x2), (3, .int x3), (4, .int x4), (5, .int 243), (6, .int 5)]) (lvS_cons (lvS_cons (lvS_cons (lvS_cons (lvS_cons (lvS_cons (lvS_nil (show ([6, 5, 0, 2, 3, 4] : List Nat).Nodup by decide)) rfl) rfl) rfl) rfl) rfl) rfl) ?_
          exact i15 x2 x3 x4 h (by omega) (by omega) K (by omega)
    · intro x2 x3 x4 h b2 b3 K hm
      have rx4 := xc_rng x4
      refine xi_iload (pc' := 64) (x := 5) kc_58_62 rfl rfl ?_
      refine xi_aload_n (pc' := 65) (x := 115) kc_58_64 rfl rfl ?_
      refine xp_115 K.1 (fun u1 u2 u3 u4 u5 u6 u7 u8 u9 u10 u11 u12 u13 bu1 bu2 bu3 bu4 bu5 bu6 bu7 bu8 bu9 bu10 bu11 bu12 bu13 A14 => ?_)
      refine xi_getfield (pc' := 68) (v := .int u10) kc_58_65 rfl rfl rfl A14 rfl ?_
      by_cases c15 : u10.toInt ≤ 5
      · refine xi_cmt (pc' := 171) kc_58_68 rfl (xc_ge_t (X := 5) (Y := u10.toInt) (by decide) rfl (by omega)) ?_
        refine xi_aload_n (pc' := 172) (x := 115) kc_58_171 rfl rfl ?_
        refine xi_getfield (pc' := 175) (v := .ref 155) kc_58_172 rfl rfl rfl A14 rfl ?_
        refine xi_iload_n (pc' := 176) (x := x3) kc_58_175 rfl rfl ?_
        refine xi_iload (pc' := 178) (x := x4) kc_58_176 rfl rfl ?_
        by_cases c16 : 0 ≤ x4.toInt
        · refine xi_ift (pc' := 185) kc_58_178 rfl (xc_ge_t (X := x4.toInt) (Y := 0) rfl (by decide) (by omega)) ?_
          refine xi_iload (pc' := 187) (x := x4) kc_58_185 rfl rfl ?_
          refine xcps4 (xk_arr K.1 xD_155) (fun y17 A17 hy17 ry17 => ?_)
          refine xcps4 (xj_set (v := x4) hy17 ry17 x3 (by first | omega | decide) (by first | omega | decide)) (fun y18 s18 hy18 ry18 => ?_)
          refine xi_iastore (pc' := 188) (x' := y18) kc_58_187 rfl A17 rfl (xi_in (by omega) (by rw [hy17]; omega)) s18 (fun hh18 eh18 => ?_)
          have K19 := xk_pa K (xk_wa rfl) xD_155 hy18 ry18 eh18
          refine xcps2 (α := Int32) (x3 + (-1)) (fun v20 ev20 => ?_)
          have zv20 : v20.toInt = (x3.toInt + (-1)) := by rw [← ev20]; exact (xz_add (X := x3.toInt) (Y := (-1)) rfl (by decide) (by omega) (by omega)).trans (by omega)
          refine xi_iinc (pc' := 191) (x := x3) (v := v20) (lv' := [(3, .int v20), (0, .ref 115), (2, .int x2), (4, .int x4), (5, .int 243), (6, .int 5)]) kc_58_188 rfl rfl ev20 rfl (xm_lt ml_58 rfl) ?_
          refine xi_goto (pc' := 48) kc_58_191 rfl ?_
          refine xw_lv (b := [(0, .ref 115), (2, .int x2), (3, .int v20)]) (lvS_cons (lvS_cons (lvS_cons (lvS_nil (show ([3, 0, 2, 4, 5, 6] : List Nat).Nodup by decide)) rfl) rfl) rfl) ?_
          exact i9 x2 v20 hh18 (by omega) (by omega) K19 (by omega)
        · refine xi_iff (pc' := 181) kc_58_178 rfl (xc_ge_f (X := x4.toInt) (Y := 0) rfl (by decide) (by omega)) ?_
          refine xi_iconst (pc' := 182) (v := 0) kc_58_181 rfl rfl ?_
          refine xi_goto (pc' := 187) kc_58_182 rfl ?_
          refine xcps4 (xk_arr K.1 xD_155) (fun y21 A21 hy21 ry21 => ?_)
          refine xcps4 (xj_set (v := 0) hy21 ry21 x3 (by first | omega | decide) (by first | omega | decide)) (fun y22 s22 hy22 ry22 => ?_)
          refine xi_iastore (pc' := 188) (x' := y22) kc_58_187 rfl A21 rfl (xi_in (by omega) (by rw [hy21]; omega)) s22 (fun hh22 eh22 => ?_)
          have K23 := xk_pa K (xk_wa rfl) xD_155 hy22 ry22 eh22
          refine xcps2 (α := Int32) (x3 + (-1)) (fun v24 ev24 => ?_)
          have zv24 : v24.toInt = (x3.toInt + (-1)) := by rw [← ev24]; exact (xz_add (X := x3.toInt) (Y := (-1)) rfl (by decide) (by omega) (by omega)).trans (by omega)
          refine xi_iinc (pc' := 191) (x := x3) (v := v24) (lv' := [(3, .int v24), (0, .ref 115), (2, .int x2), (4, .int x4), (5, .int 243), (6, .int 5)]) kc_58_188 rfl rfl ev24 rfl (xm_lt ml_58 rfl) ?_
          refine xi_goto (pc' := 48) kc_58_191 rfl ?_
          refine xw_lv (b := [(0, .ref 115), (2, .int x2), (3, .int v24)]) (lvS_cons (lvS_cons (lvS_cons (lvS_nil (show ([3, 0, 2, 4, 5, 6] : List Nat).Nodup by decide)) rfl) rfl) rfl) ?_
          exact i9 x2 v24 hh22 (by omega) (by omega) K23 (by omega)
      · refine xi_cmf (pc' := 71) kc_58_68 rfl (xc_ge_f (X := 5) (Y := u10.toInt) (by decide) rfl (by omega)) ?_
        refine xi_iload_n (pc' := 72) (x := x3) kc_58_71 rfl rfl ?_
        refine xi_iload (pc' := 74) (x := 243) kc_58_72 rfl rfl ?_
        refine xcps2 (α := Int32) (x3 / 243) (fun v25 ev25 => ?_)
        have dv25 : v25.toInt = x3.toInt / 243 := by rw [← ev25]; exact xz_dive (X := x3.toInt) (Y := 243) rfl (by decide) (by omega) (by decide)
        have bv25 : 0 ≤ v25.toInt ∧ v25.toInt ≤ 26 := by omega
        refine xi_idiv (pc' := 75) (v := v25) kc_58_74 rfl ev25 (by decide) ?_
        refine xi_iconst (pc' := 76) (v := 3) kc_58_75 rfl rfl ?_
        refine xcps2 (α := Int32) (v25 - v25 / 3 * 3) (fun v26 ev26 => ?_)
        have dv26 : v26.toInt = v25.toInt % 3 := by rw [← ev26]; exact xz_reme (X := v25.toInt) (Y := 3) rfl (by decide) (by omega) (by decide)
        have bv26 : 0 ≤ v26.toInt ∧ v26.toInt ≤ 2 := by omega
        refine xi_irem (pc' := 77) (v := v26) kc_58_76 rfl ev26 (by decide) ?_
        by_cases c27 : v26.toInt = 0
        · refine xi_iff (pc' := 80) kc_58_77 rfl (xc_ne_f (X := v26.toInt) (Y := 0) rfl (by decide) (by omega)) ?_
          refine xi_aload_n (pc' := 81) (x := 115) kc_58_80 rfl rfl ?_
          refine xi_iload_n (pc' := 82) (x := x3) kc_58_81 rfl rfl ?_
          refine xi_iload (pc' := 84) (x := 5) kc_58_82 rfl rfl ?_
          refine xi_virtual (mj := 59) (as := [.int x3, .int 5]) (st1 := []) (lv0 := [(0, .ref 115), (1, .int x3), (2, .int 5)]) kc_58_84 rfl rfl rfl rfl rfl A14 (Nat.le_of_ble_eq_true rfl) (hJ _ _ _ _ (by decide)) (xm_le ml_59 rfl) rfl ?_
          have zc5 : (5 : Int32).toInt = 5 := by decide
          refine mt_59_0 hJ hov1 hov2 (d := d + 3) (x1 := x3) (x2 := 5) K.1 (by first | omega | decide) (by first | omega | decide) (fun r28 hh29 br28 K30 => ?_)
          have K31 := xk_tr K K30 rfl
          refine xp_115 K31.1 (fun u32 u33 u34 u35 u36 u37 u38 u39 u40 u41 u42 u43 u44 bu32 bu33 bu34 bu35 bu36 bu37 bu38 bu39 bu40 bu41 bu42 bu43 bu44 A45 => ?_)
          have e46 : u2 = u33 := xk_eqi (q := 1) K30 rfl A14 A45 rfl rfl
          subst e46
          have e47 : u4 = u35 := xk_eqi (q := 18) K30 rfl A14 A45 rfl rfl
          subst e47
          show xw J ov (d + 7) 58 (87, [(0, .ref 115), (2, .int x2), (3, .int x3), (4, .int x4), (5, .int 243), (6, .int 5)], [.int r28], hh29) _
          by_cases c48 : r28.toInt = 0
          · refine xi_ift (pc' := 159) kc_58_87 rfl (xc_eq_t (X := r28.toInt) (Y := 0) rfl (by decide) (by omega)) ?_
            refine xi_iload (pc' := 161) (x := 243) kc_58_159 rfl rfl ?_
            refine xi_iconst (pc' := 162) (v := 3) kc_58_161 rfl rfl ?_
            refine xi_imul (pc' := 163) (v := 729) kc_58_162 rfl rfl ?_
            refine xi_istore (pc' := 165) (lv' := [(5, .int 729), (0, .ref 115), (2, .int x2), (3, .int x3), (4, .int x4), (6, .int 5)]) kc_58_163 rfl rfl (xm_lt ml_58 rfl) ?_
            refine xi_iinc (pc' := 168) (x := 5) (v := 6) (lv' := [(6, .int 6), (5, .int 729), (0, .ref 115), (2, .int x2), (3, .int x3), (4, .int x4)]) kc_58_165 rfl rfl rfl rfl (xm_lt ml_58 rfl) ?_
            refine xi_goto (pc' := 62) kc_58_168 rfl ?_
            have zc6 : (6 : Int32).toInt = 6 := by decide
            have zc729 : (729 : Int32).toInt = 729 := by decide
            refine xw_lv (b := [(0, .ref 115), (2, .int x2), (3, .int x3), (4, .int x4), (5, .int 729), (6, .int 6)]) (lvS_cons (lvS_cons (lvS_cons (lvS_cons (lvS_cons (lvS_cons (lvS_nil (show ([6, 5, 0, 2, 3, 4] : List Nat).Nodup by decide)) rfl) rfl) rfl) rfl) rfl) rfl) ?_
            exact i16 x2 x3 x4 hh29 (by omega) (by omega) K31 (by omega)
          · refine xi_iff (pc' := 90) kc_58_87 rfl (xc_eq_f (X := r28.toInt) (Y := 0) rfl (by decide) (by omega)) ?_
            refine xi_aload_n (pc' := 91) (x := 115) kc_58_90 rfl rfl ?_
            refine xi_getfield (pc' := 94) (v := .ref 155) kc_58_91 rfl rfl rfl A45 rfl ?_
            refine xi_iload_n (pc' := 95) (x := x3) kc_58_94 rfl rfl ?_
            refine xi_iload (pc' := 97) (x := 243) kc_58_95 rfl rfl ?_
            refine xcps2 (α := Int32) (x3 + 243) (fun v49 ev49 => ?_)
            have zv49 : v49.toInt = (x3.toInt + 243) := by rw [← ev49]; exact (xz_add (X := x3.toInt) (Y := 243) rfl (by decide) (by omega) (by omega)).trans (by omega)
            refine xi_iadd (pc' := 98) (v := v49) kc_58_97 rfl ev49 ?_
            have t50 : (-243) ≤ x3.toInt ∧ x3.toInt ≤ 6317 := by omega
            refine xcps4 (xk_arr K31.1 xD_155) (fun y51 A51 hy51 ry51 => ?_)
            refine xcps4 (xj_get hy51 ry51 (i := v49) (by rw [zv49]; omega) (by rw [zv49]; omega)) (fun v52 ev52 bv52 dv52 => ?_)
            refine xi_iaload (pc' := 99) (v := v52) kc_58_98 rfl A51 (by decide) rfl (xi_in (by rw [zv49]; omega) (by rw [hy51]; rw [zv49]; omega)) ev52 ?_
            refine xi_istore (pc' := 101) (lv' := [(7, .int v52), (0, .ref 115), (2, .int x2), (3, .int x3), (4, .int x4), (5, .int 243), (6, .int 5)]) kc_58_99 rfl rfl (xm_lt ml_58 rfl) ?_
            refine xi_aload_n (pc' := 102) (x := 115) kc_58_101 rfl rfl ?_
            refine xi_getfield (pc' := 105) (v := .ref 155) kc_58_102 rfl rfl rfl A45 rfl ?_
            refine xi_iload_n (pc' := 106) (x := x3) kc_58_105 rfl rfl ?_
            refine xi_iconst (pc' := 107) (v := 2) kc_58_106 rfl rfl ?_
            refine xi_iload (pc' := 109) (x := 243) kc_58_107 rfl rfl ?_
            refine xi_imul (pc' := 110) (v := 486) kc_58_109 rfl rfl ?_
            refine xcps2 (α := Int32) (x3 + 486) (fun v53 ev53 => ?_)
            have zv53 : v53.toInt = (x3.toInt + 486) := by rw [← ev53]; exact (xz_add (X := x3.toInt) (Y := 486) rfl (by decide) (by omega) (by omega)).trans (by omega)
            refine xi_iadd (pc' := 111) (v := v53) kc_58_110 rfl ev53 ?_
            have t54 : (-486) ≤ x3.toInt ∧ x3.toInt ≤ 6074 := by omega
            refine xcps4 (xj_get hy51 ry51 (i := v53) (by rw [zv53]; omega) (by rw [zv53]; omega)) (fun v55 ev55 bv55 dv55 => ?_)
            refine xi_iaload (pc' := 112) (v := v55) kc_58_111 rfl A51 (by decide) rfl (xi_in (by rw [zv53]; omega) (by rw [hy51]; rw [zv53]; omega)) ev55 ?_
            refine xi_istore (pc' := 114) (lv' := [(8, .int v55), (7, .int v52), (0, .ref 115), (2, .int x2), (3, .int x3), (4, .int x4), (5, .int 243), (6, .int 5)]) kc_58_112 rfl rfl (xm_lt ml_58 rfl) ?_
            refine xi_aload_n (pc' := 115) (x := 115) kc_58_114 rfl rfl ?_
            refine xi_getfield (pc' := 118) (v := .ref 153) kc_58_115 rfl rfl rfl A45 rfl ?_
            refine xi_iload (pc' := 120) (x := 5) kc_58_118 rfl rfl ?_
            refine xcps4 (xk_arr K31.1 xD_153) (fun y56 A56 hy56 ry56 => ?_)
            refine xcps4 (xj_get hy56 ry56 (i := 5) (by decide) (by decide)) (fun v57 ev57 bv57 dv57 => ?_)
            refine xi_iaload (pc' := 121) (v := v57) kc_58_120 rfl A56 (by decide) rfl (xi_in (by decide) (by rw [hy56]; decide)) ev57 ?_
            refine xi_iload (pc' := 123) (x := v52) kc_58_121 rfl rfl ?_
            refine xi_iload (pc' := 125) (x := v55) kc_58_123 rfl rfl ?_
            by_cases c58 : v52.toInt ≤ v55.toInt
            · refine xi_cmt (pc' := 133) kc_58_125 rfl (xc_le_t (X := v52.toInt) (Y := v55.toInt) rfl rfl (by omega)) ?_
              refine xi_iload (pc' := 135) (x := v55) kc_58_133 rfl rfl ?_
              refine xcps2 (α := Int32) ((v57 : Int32) + v55) (fun v59 ev59 => ?_)
              have rv59 := xc_rng v59
              refine xi_iadd (pc' := 136) (v := v59) kc_58_135 rfl ev59 ?_
              refine xi_istore (pc' := 138) (lv' := [(9, .int v59), (8, .int v55), (7, .int v52), (0, .ref 115), (2, .int x2), (3, .int x3), (4, .int x4), (5, .int 243), (6, .int 5)]) kc_58_136 rfl rfl (xm_lt ml_58 rfl) ?_
              refine xi_iload (pc' := 140) (x := x4) kc_58_138 rfl rfl ?_
              by_cases c60 : x4.toInt < 0
              · refine xi_ift (pc' := 150) kc_58_140 rfl (xc_lt_t (X := x4.toInt) (Y := 0) rfl (by decide) (by omega)) ?_
                refine xi_iload (pc' := 152) (x := v59) kc_58_150 rfl rfl ?_
                refine xi_goto (pc' := 157) kc_58_152 rfl ?_
                refine xi_istore (pc' := 159) (lv' := [(4, .int v59), (9, .int v59), (8, .int v55), (7, .int v52), (0, .ref 115), (2, .int x2), (3, .int x3), (5, .int 243), (6, .int 5)]) kc_58_157 rfl rfl (xm_lt ml_58 rfl) ?_
                refine xi_iload (pc' := 161) (x := 243) kc_58_159 rfl rfl ?_
                refine xi_iconst (pc' := 162) (v := 3) kc_58_161 rfl rfl ?_
                refine xi_imul (pc' := 163) (v := 729) kc_58_162 rfl rfl ?_
                refine xi_istore (pc' := 165) (lv' := [(5, .int 729), (4, .int v59), (9, .int v59), (8, .int v55), (7, .int v52), (0, .ref 115), (2, .int x2), (3, .int x3), (6, .int 5)]) kc_58_163 rfl rfl (xm_lt ml_58 rfl) ?_
                refine xi_iinc (pc' := 168) (x := 5) (v := 6) (lv' := [(6, .int 6), (5, .int 729), (4, .int v59), (9, .int v59), (8, .int v55), (7, .int v52), (0, .ref 115), (2, .int x2), (3, .int x3)]) kc_58_165 rfl rfl rfl rfl (xm_lt ml_58 rfl) ?_
                refine xi_goto (pc' := 62) kc_58_168 rfl ?_
                have zc6 : (6 : Int32).toInt = 6 := by decide
                have zc729 : (729 : Int32).toInt = 729 := by decide
                refine xw_lv (b := [(0, .ref 115), (2, .int x2), (3, .int x3), (4, .int v59), (5, .int 729), (6, .int 6)]) (lvS_cons (lvS_cons (lvS_cons (lvS_cons (lvS_cons (lvS_cons (lvS_nil (show ([6, 5, 4, 9, 8, 7, 0, 2, 3] : List Nat).Nodup by decide)) rfl) rfl) rfl) rfl) rfl) rfl) ?_
                exact i16 x2 x3 v59 hh29 (by omega) (by omega) K31 (by omega)
              · refine xi_iff (pc' := 143) kc_58_140 rfl (xc_lt_f (X := x4.toInt) (Y := 0) rfl (by decide) (by omega)) ?_
                refine xi_iload (pc' := 145) (x := v59) kc_58_143 rfl rfl ?_
                refine xi_iload (pc' := 147) (x := x4) kc_58_145 rfl rfl ?_
                by_cases c61 : x4.toInt ≤ v59.toInt
                · refine xi_cmt (pc' := 155) kc_58_147 rfl (xc_ge_t (X := v59.toInt) (Y := x4.toInt) rfl rfl (by omega)) ?_
                  refine xi_iload (pc' := 157) (x := x4) kc_58_155 rfl rfl ?_
                  refine xi_istore (pc' := 159) (lv' := [(4, .int x4), (9, .int v59), (8, .int v55), (7, .int v52), (0, .ref 115), (2, .int x2), (3, .int x3), (5, .int 243), (6, .int 5)]) kc_58_157 rfl rfl (xm_lt ml_58 rfl) ?_
                  refine xi_iload (pc' := 161) (x := 243) kc_58_159 rfl rfl ?_
                  refine xi_iconst (pc' := 162) (v := 3) kc_58_161 rfl rfl ?_
                  refine xi_imul (pc' := 163) (v := 729) kc_58_162 rfl rfl ?_
                  refine xi_istore (pc' := 165) (lv' := [(5, .int 729), (4, .int x4), (9, .int v59), (8, .int v55), (7, .int v52), (0, .ref 115), (2, .int x2), (3, .int x3), (6, .int 5)]) kc_58_163 rfl rfl (xm_lt ml_58 rfl) ?_
                  refine xi_iinc (pc' := 168) (x := 5) (v := 6) (lv' := [(6, .int 6), (5, .int 729), (4, .int x4), (9, .int v59), (8, .int v55), (7, .int v52), (0, .ref 115), (2, .int x2), (3, .int x3)]) kc_58_165 rfl rfl rfl rfl (xm_lt ml_58 rfl) ?_
                  refine xi_goto (pc' := 62) kc_58_168 rfl ?_
                  have zc6 : (6 : Int32).toInt = 6 := by decide
                  have zc729 : (729 : Int32).toInt = 729 := by decide
                  refine xw_lv (b := [(0, .ref 115), (2, .int x2), (3, .int x3), (4, .int x4), (5, .int 729), (6, .int 6)]) (lvS_cons (lvS_cons (lvS_cons (lvS_cons (lvS_cons (lvS_cons (lvS_nil (show ([6, 5, 4, 9, 8, 7, 0, 2, 3] : List Nat).Nodup by decide)) rfl) rfl) rfl) rfl) rfl) rfl) ?_
                  exact i16 x2 x3 x4 hh29 (by omega) (by omega) K31 (by omega)
                · refine xi_cmf (pc' := 150) kc_58_147 rfl (xc_ge_f (X := v59.toInt) (Y := x4.toInt) rfl rfl (by omega)) ?_
                  refine xi_iload (pc' := 152) (x := v59) kc_58_150 rfl rfl ?_
                  refine xi_goto (pc' := 157) kc_58_152 rfl ?_
                  refine xi_istore (pc' := 159) (lv' := [(4, .int v59), (9, .int v59), (8, .int v55), (7, .int v52), (0, .ref 115), (2, .int x2), (3, .int x3), (5, .int 243), (6, .int 5)]) kc_58_157 rfl rfl (xm_lt ml_58 rfl) ?_
                  refine xi_iload (pc' := 161) (x := 243) kc_58_159 rfl rfl ?_
                  refine xi_iconst (pc' := 162) (v := 3) kc_58_161 rfl rfl ?_
                  refine xi_imul (pc' := 163) (v := 729) kc_58_162 rfl rfl ?_
                  refine xi_istore (pc' := 165) (lv' := [(5, .int 729), (4, .int v59), (9, .int v59), (8, .int v55), (7, .int v52), (0, .ref 115), (2, .int x2), (3, .int x3), (6, .int 5)]) kc_58_163 rfl rfl (xm_lt ml_58 rfl) ?_
                  refine xi_iinc (pc' := 168) (x := 5) (v := 6) (lv' := [(6, .int 6), (5, .int 729), (4, .int v59), (9, .int v59), (8, .int v55), (7, .int v52), (0, .ref 115), (2, .int x2), (3, .int x3)]) kc_58_165 rfl rfl rfl rfl (xm_lt ml_58 rfl) ?_
                  refine xi_goto (pc' := 62) kc_58_168 rfl ?_
                  have zc6 : (6 : Int32).toInt = 6 := by decide
                  have zc729 : (729 : Int32).toInt = 729 := by decide
                  refine xw_lv (b := [(0, .ref 115), (2, .int x2), (3, .int x3), (4, .int v59), (5, .int 729), (6, .int 6)]) (lvS_cons (lvS_cons (lvS_cons (lvS_cons (lvS_cons (lvS_cons (lvS_nil (show ([6, 5, 4, 9, 8, 7, 0, 2, 3] : List Nat).Nodup by decide)) rfl) rfl) rfl) rfl) rfl) rfl) ?_
                  exact i16 x2 x3 v59 hh29 (by omega) (by omega) K31 (by omega)
            · refine xi_cmf (pc' := 128) kc_58_125 rfl (xc_le_f (X := v52.toInt) (Y := v55.toInt) rfl rfl (by omega)) ?_
              refine xi_iload (pc' := 130) (x := v52) kc_58_128 rfl rfl ?_
              refine xi_goto (pc' := 135) kc_58_130 rfl ?_
              refine xcps2 (α := Int32) ((v57 : Int32) + v52) (fun v62 ev62 => ?_)
              have rv62 := xc_rng v62
              refine xi_iadd (pc' := 136) (v := v62) kc_58_135 rfl ev62 ?_
              refine xi_istore (pc' := 138) (lv' := [(9, .int v62), (8, .int v55), (7, .int v52), (0, .ref 115), (2, .int x2), (3, .int x3), (4, .int x4), (5, .int 243), (6, .int 5)]) kc_58_136 rfl rfl (xm_lt ml_58 rfl) ?_
              refine xi_iload (pc' := 140) (x := x4) kc_58_138 rfl rfl ?_
              by_cases c63 : x4.toInt < 0
              · refine xi_ift (pc' := 150) kc_58_140 rfl (xc_lt_t (X := x4.toInt) (Y := 0) rfl (by decide) (by omega)) ?_
                refine xi_iload (pc' := 152) (x := v62) kc_58_150 rfl rfl ?_
                refine xi_goto (pc' := 157) kc_58_152 rfl ?_
                refine xi_istore (pc' := 159) (lv' := [(4, .int v62), (9, .int v62), (8, .int v55), (7, .int v52), (0, .ref 115), (2, .int x2), (3, .int x3), (5, .int 243), (6, .int 5)]) kc_58_157 rfl rfl (xm_lt ml_58 rfl) ?_
                refine xi_iload (pc' := 161) (x := 243) kc_58_159 rfl rfl ?_
                refine xi_iconst (pc' := 162) (v := 3) kc_58_161 rfl rfl ?_
                refine xi_imul (pc' := 163) (v := 729) kc_58_162 rfl rfl ?_
                refine xi_istore (pc' := 165) (lv' := [(5, .int 729), (4, .int v62), (9, .int v62), (8, .int v55), (7, .int v52), (0, .ref 115), (2, .int x2), (3, .int x3), (6, .int 5)]) kc_58_163 rfl rfl (xm_lt ml_58 rfl) ?_
                refine xi_iinc (pc' := 168) (x := 5) (v := 6) (lv' := [(6, .int 6), (5, .int 729), (4, .int v62), (9, .int v62), (8, .int v55), (7, .int v52), (0, .ref 115), (2, .int x2), (3, .int x3)]) kc_58_165 rfl rfl rfl rfl (xm_lt ml_58 rfl) ?_
                refine xi_goto (pc' := 62) kc_58_168 rfl ?_
                have zc6 : (6 : Int32).toInt = 6 := by decide
                have zc729 : (729 : Int32).toInt = 729 := by decide
                refine xw_lv (b := [(0, .ref 115), (2, .int x2), (3, .int x3), (4, .int v62), (5, .int 729), (6, .int 6)]) (lvS_cons (lvS_cons (lvS_cons (lvS_cons (lvS_cons (lvS_cons (lvS_nil (show ([6, 5, 4, 9, 8, 7, 0, 2, 3] : List Nat).Nodup by decide)) rfl) rfl) rfl) rfl) rfl) rfl) ?_
                exact i16 x2 x3 v62 hh29 (by omega) (by omega) K31 (by omega)
              · refine xi_iff (pc' := 143) kc_58_140 rfl (xc_lt_f (X := x4.toInt) (Y := 0) rfl (by decide) (by omega)) ?_
                refine xi_iload (pc' := 145) (x := v62) kc_58_143 rfl rfl ?_
                refine xi_iload (pc' := 147) (x := x4) kc_58_145 rfl rfl ?_
                by_cases c64 : x4.toInt ≤ v62.toInt
                · refine xi_cmt (pc' := 155) kc_58_147 rfl (xc_ge_t (X := v62.toInt) (Y := x4.toInt) rfl rfl (by omega)) ?_
                  refine xi_iload (pc' := 157) (x := x4) kc_58_155 rfl rfl ?_
                  refine xi_istore (pc' := 159) (lv' := [(4, .int x4), (9, .int v62), (8, .int v55), (7, .int v52), (0, .ref 115), (2, .int x2), (3, .int x3), (5, .int 243), (6, .int 5)]) kc_58_157 rfl rfl (xm_lt ml_58 rfl) ?_
                  refine xi_iload (pc' := 161) (x := 243) kc_58_159 rfl rfl ?_
                  refine xi_iconst (pc' := 162) (v := 3) kc_58_161 rfl rfl ?_
                  refine xi_imul (pc' := 163) (v := 729) kc_58_162 rfl rfl ?_
                  refine xi_istore (pc' := 165) (lv' := [(5, .int 729), (4, .int x4), (9, .int v62), (8, .int v55), (7, .int v52), (0, .ref 115), (2, .int x2), (3, .int x3), (6, .int 5)]) kc_58_163 rfl rfl (xm_lt ml_58 rfl) ?_
                  refine xi_iinc (pc' := 168) (x := 5) (v := 6) (lv' := [(6, .int 6), (5, .int 729), (4, .int x4), (9, .int v62), (8, .int v55), (7, .int v52), (0, .ref 115), (2, .int x2), (3, .int x3)]) kc_58_165 rfl rfl rfl rfl (xm_lt ml_58 rfl) ?_
                  refine xi_goto (pc' := 62) kc_58_168 rfl ?_
                  have zc6 : (6 : Int32).toInt = 6 := by decide
                  have zc729 : (729 : Int32).toInt = 729 := by decide
                  refine xw_lv (b := [(0, .ref 115), (2, .int x2), (3, .int x3), (4, .int x4), (5, .int 729), (6, .int 6)]) (lvS_cons (lvS_cons (lvS_cons (lvS_cons (lvS_cons (lvS_cons (lvS_nil (show ([6, 5, 4, 9, 8, 7, 0, 2, 3] : List Nat).Nodup by decide)) rfl) rfl) rfl) rfl) rfl) rfl) ?_
                  exact i16 x2 x3 x4 hh29 (by omega) (by omega) K31 (by omega)
                · refine xi_cmf (pc' := 150) kc_58_147 rfl (xc_ge_f (X := v62.toInt) (Y := x4.toInt) rfl rfl (by omega)) ?_
                  refine xi_iload (pc' := 152) (x := v62) kc_58_150 rfl rfl ?_
                  refine xi_goto (pc' := 157) kc_58_152 rfl ?_
                  refine xi_istore (pc' := 159) (lv' := [(4, .int v62), (9, .int v62), (8, .int v55), (7, .int v52), (0, .ref 115), (2, .int x2), (3, .int x3), (5, .int 243), (6, .int 5)]) kc_58_157 rfl rfl (xm_lt ml_58 rfl) ?_
                  refine xi_iload (pc' := 161) (x := 243) kc_58_159 rfl rfl ?_
                  refine xi_iconst (pc' := 162) (v := 3) kc_58_161 rfl rfl ?_
                  refine xi_imul (pc' := 163) (v := 729) kc_58_162 rfl rfl ?_
                  refine xi_istore (pc' := 165) (lv' := [(5, .int 729), (4, .int v62), (9, .int v62), (8, .int v55), (7, .int v52), (0, .ref 115), (2, .int x2), (3, .int x3), (6, .int 5)]) kc_58_163 rfl rfl (xm_lt ml_58 rfl) ?_
                  refine xi_iinc (pc' := 168) (x := 5) (v := 6) (lv' := [(6, .int 6), (5, .int 729), (4, .int v62), (9, .int v62), (8, .int v55), (7, .int v52), (0, .ref 115), (2, .int x2), (3, .int x3)]) kc_58_165 rfl rfl rfl rfl (xm_lt ml_58 rfl) ?_
                  refine xi_goto (pc' := 62) kc_58_168 rfl ?_
                  have zc6 : (6 : Int32).toInt = 6 := by decide
                  have zc729 : (729 : Int32).toInt = 729 := by decide
                  refine xw_lv (b := [(0, .ref 115), (2, .int x2), (3, .int x3), (4, .int v62), (5, .int 729), (6, .int 6)]) (lvS_cons (lvS_cons (lvS_cons (lvS_cons (lvS_cons (lvS_cons (lvS_nil (show ([6, 5, 4, 9, 8, 7, 0, 2, 3] : List Nat).Nodup by decide)) rfl) rfl) rfl) rfl) rfl) rfl) ?_
                  exact i16 x2 x3 v62 hh29 (by omega) (by omega) K31 (by omega)
        · refine xi_ift (pc' := 159) kc_58_77 rfl (xc_ne_t (X := v26.toInt) (Y := 0) rfl (by decide) (by omega)) ?_
          refine xi_iload (pc' := 161) (x := 243) kc_58_159 rfl rfl ?_
          refine xi_iconst (pc' := 162) (v := 3) kc_58_161 rfl rfl ?_
          refine xi_imul (pc' := 163) (v := 729) kc_58_162 rfl rfl ?_
          refine xi_istore (pc' := 165) (lv' := [(5, .int 729), (0, .ref 115), (2, .int x2), (3, .int x3), (4, .int x4), (6, .int 5)]) kc_58_163 rfl rfl (xm_lt ml_58 rfl) ?_
          refine xi_iinc (pc' := 168) (x := 5) (v := 6) (lv' := [(6, .int 6), (5, .int 729), (0, .ref 115), (2, .int x2), (3, .int x3), (4, .int x4)]) kc_58_165 rfl rfl rfl rfl (xm_lt ml_58 rfl) ?_
          refine xi_goto (pc' := 62) kc_58_168 rfl ?_
          have zc6 : (6 : Int32).toInt = 6 := by decide
          have zc729 : (729 : Int32).toInt = 729 := by decide
          refine xw_lv (b := [(0, .ref 115), (2, .int x2), (3, .int x3), (4, .int x4), (5, .int 729), (6, .int 6)]) (lvS_cons (lvS_cons (lvS_cons (lvS_cons (lvS_cons (lvS_cons (lvS_nil (show ([6, 5, 0, 2, 3, 4] : List Nat).Nodup by decide)) rfl) rfl) rfl) rfl) rfl) rfl) ?_
          exact i16 x2 x3 x4 h (by omega) (by omega) K (by omega)
    · intro x2 x3 x4 h b2 b3 K hm
      have rx4 := xc_rng x4
      refine xi_iload (pc' := 64) (x := 6) kc_58_62 rfl rfl ?_
      refine xi_aload_n (pc' := 65) (x := 115) kc_58_64 rfl rfl ?_
      refine xp_115 K.1 (fun u1 u2 u3 u4 u5 u6 u7 u8 u9 u10 u11 u12 u13 bu1 bu2 bu3 bu4 bu5 bu6 bu7 bu8 bu9 bu10 bu11 bu12 bu13 A14 => ?_)
      refine xi_getfield (pc' := 68) (v := .int u10) kc_58_65 rfl rfl rfl A14 rfl ?_
      by_cases c15 : u10.toInt ≤ 6
      · refine xi_cmt (pc' := 171) kc_58_68 rfl (xc_ge_t (X := 6) (Y := u10.toInt) (by decide) rfl (by omega)) ?_
        refine xi_aload_n (pc' := 172) (x := 115) kc_58_171 rfl rfl ?_
        refine xi_getfield (pc' := 175) (v := .ref 155) kc_58_172 rfl rfl rfl A14 rfl ?_
        refine xi_iload_n (pc' := 176) (x := x3) kc_58_175 rfl rfl ?_
        refine xi_iload (pc' := 178) (x := x4) kc_58_176 rfl rfl ?_
        by_cases c16 : 0 ≤ x4.toInt
        · refine xi_ift (pc' := 185) kc_58_178 rfl (xc_ge_t (X := x4.toInt) (Y := 0) rfl (by decide) (by omega)) ?_
          refine xi_iload (pc' := 187) (x := x4) kc_58_185 rfl rfl ?_
          refine xcps4 (xk_arr K.1 xD_155) (fun y17 A17 hy17 ry17 => ?_)
          refine xcps4 (xj_set (v := x4) hy17 ry17 x3 (by first | omega | decide) (by first | omega | decide)) (fun y18 s18 hy18 ry18 => ?_)
          refine xi_iastore (pc' := 188) (x' := y18) kc_58_187 rfl A17 rfl (xi_in (by omega) (by rw [hy17]; omega)) s18 (fun hh18 eh18 => ?_)
          have K19 := xk_pa K (xk_wa rfl) xD_155 hy18 ry18 eh18
          refine xcps2 (α := Int32) (x3 + (-1)) (fun v20 ev20 => ?_)
          have zv20 : v20.toInt = (x3.toInt + (-1)) := by rw [← ev20]; exact (xz_add (X := x3.toInt) (Y := (-1)) rfl (by decide) (by omega) (by omega)).trans (by omega)
          refine xi_iinc (pc' := 191) (x := x3) (v := v20) (lv' := [(3, .int v20), (0, .ref 115), (2, .int x2), (4, .int x4), (5, .int 729), (6, .int 6)]) kc_58_188 rfl rfl ev20 rfl (xm_lt ml_58 rfl) ?_
          refine xi_goto (pc' := 48) kc_58_191 rfl ?_
          refine xw_lv (b := [(0, .ref 115), (2, .int x2), (3, .int v20)]) (lvS_cons (lvS_cons (lvS_cons (lvS_nil (show ([3, 0, 2, 4, 5, 6] : List Nat).Nodup by decide)) rfl) rfl) rfl) ?_
          exact i9 x2 v20 hh18 (by omega) (by omega) K19 (by omega)
        · refine xi_iff (pc' := 181) kc_58_178 rfl (xc_ge_f (X := x4.toInt) (Y := 0) rfl (by decide) (by omega)) ?_
          refine xi_iconst (pc' := 182) (v := 0) kc_58_181 rfl rfl ?_
          refine xi_goto (pc' := 187) kc_58_182 rfl ?_
          refine xcps4 (xk_arr K.1 xD_155) (fun y21 A21 hy21 ry21 => ?_)
          refine xcps4 (xj_set (v := 0) hy21 ry21 x3 (by first | omega | decide) (by first | omega | decide)) (fun y22 s22 hy22 ry22 => ?_)
          refine xi_iastore (pc' := 188) (x' := y22) kc_58_187 rfl A21 rfl (xi_in (by omega) (by rw [hy21]; omega)) s22 (fun hh22 eh22 => ?_)
          have K23 := xk_pa K (xk_wa rfl) xD_155 hy22 ry22 eh22
          refine xcps2 (α := Int32) (x3 + (-1)) (fun v24 ev24 => ?_)
          have zv24 : v24.toInt = (x3.toInt + (-1)) := by rw [← ev24]; exact (xz_add (X := x3.toInt) (Y := (-1)) rfl (by decide) (by omega) (by omega)).trans (by omega)
          refine xi_iinc (pc' := 191) (x := x3) (v := v24) (lv' := [(3, .int v24), (0, .ref 115), (2, .int x2), (4, .int x4), (5, .int 729), (6, .int 6)]) kc_58_188 rfl rfl ev24 rfl (xm_lt ml_58 rfl) ?_
          refine xi_goto (pc' := 48) kc_58_191 rfl ?_
          refine xw_lv (b := [(0, .ref 115), (2, .int x2), (3, .int v24)]) (lvS_cons (lvS_cons (lvS_cons (lvS_nil (show ([3, 0, 2, 4, 5, 6] : List Nat).Nodup by decide)) rfl) rfl) rfl) ?_
          exact i9 x2 v24 hh22 (by omega) (by omega) K23 (by omega)
      · refine xi_cmf (pc' := 71) kc_58_68 rfl (xc_ge_f (X := 6) (Y := u10.toInt) (by decide) rfl (by omega)) ?_
        refine xi_iload_n (pc' := 72) (x := x3) kc_58_71 rfl rfl ?_
        refine xi_iload (pc' := 74) (x := 729) kc_58_72 rfl rfl ?_
        refine xcps2 (α := Int32) (x3 / 729) (fun v25 ev25 => ?_)
        have dv25 : v25.toInt = x3.toInt / 729 := by rw [← ev25]; exact xz_dive (X := x3.toInt) (Y := 729) rfl (by decide) (by omega) (by decide)
        have bv25 : 0 ≤ v25.toInt ∧ v25.toInt ≤ 8 := by omega
        refine xi_idiv (pc' := 75) (v := v25) kc_58_74 rfl ev25 (by decide) ?_
        refine xi_iconst (pc' := 76) (v := 3) kc_58_75 rfl rfl ?_
        refine xcps2 (α := Int32) (v25 - v25 / 3 * 3) (fun v26 ev26 => ?_)
        have dv26 : v26.toInt = v25.toInt % 3 := by rw [← ev26]; exact xz_reme (X := v25.toInt) (Y := 3) rfl (by decide) (by omega) (by decide)
        have bv26 : 0 ≤ v26.toInt ∧ v26.toInt ≤ 2 := by omega
        refine xi_irem (pc' := 77) (v := v26) kc_58_76 rfl ev26 (by decide) ?_
        by_cases c27 : v26.toInt = 0
        · refine xi_iff (pc' := 80) kc_58_77 rfl (xc_ne_f (X := v26.toInt) (Y := 0) rfl (by decide) (by omega)) ?_
          refine xi_aload_n (pc' := 81) (x := 115) kc_58_80 rfl rfl ?_
          refine xi_iload_n (pc' := 82) (x := x3) kc_58_81 rfl rfl ?_
          refine xi_iload (pc' := 84) (x := 6) kc_58_82 rfl rfl ?_
          refine xi_virtual (mj := 59) (as := [.int x3, .int 6]) (st1 := []) (lv0 := [(0, .ref 115), (1, .int x3), (2, .int 6)]) kc_58_84 rfl rfl rfl rfl rfl A14 (Nat.le_of_ble_eq_true rfl) (hJ _ _ _ _ (by decide)) (xm_le ml_59 rfl) rfl ?_
          have zc6 : (6 : Int32).toInt = 6 := by decide
          refine mt_59_0 hJ hov1 hov2 (d := d + 3) (x1 := x3) (x2 := 6) K.1 (by first | omega | decide) (by first | omega | decide) (fun r28 hh29 br28 K30 => ?_)
          have K31 := xk_tr K K30 rfl
          refine xp_115 K31.1 (fun u32 u33 u34 u35 u36 u37 u38 u39 u40 u41 u42 u43 u44 bu32 bu33 bu34 bu35 bu36 bu37 bu38 bu39 bu40 bu41 bu42 bu43 bu44 A45 => ?_)
          have e46 : u2 = u33 := xk_eqi (q := 1) K30 rfl A14 A45 rfl rfl
          subst e46
          have e47 : u4 = u35 := xk_eqi (q := 18) K30 rfl A14 A45 rfl rfl
          subst e47
          show xw J ov (d + 7) 58 (87, [(0, .ref 115), (2, .int x2), (3, .int x3), (4, .int x4), (5, .int 729), (6, .int 6)], [.int r28], hh29) _
          by_cases c48 : r28.toInt = 0
          · refine xi_ift (pc' := 159) kc_58_87 rfl (xc_eq_t (X := r28.toInt) (Y := 0) rfl (by decide) (by omega)) ?_
            refine xi_iload (pc' := 161) (x := 729) kc_58_159 rfl rfl ?_
            refine xi_iconst (pc' := 162) (v := 3) kc_58_161 rfl rfl ?_
            refine xi_imul (pc' := 163) (v := 2187) kc_58_162 rfl rfl ?_
            refine xi_istore (pc' := 165) (lv' := [(5, .int 2187), (0, .ref 115), (2, .int x2), (3, .int x3), (4, .int x4), (6, .int 6)]) kc_58_163 rfl rfl (xm_lt ml_58 rfl) ?_
            refine xi_iinc (pc' := 168) (x := 6) (v := 7) (lv' := [(6, .int 7), (5, .int 2187), (0, .ref 115), (2, .int x2), (3, .int x3), (4, .int x4)]) kc_58_165 rfl rfl rfl rfl (xm_lt ml_58 rfl) ?_
            refine xi_goto (pc' := 62) kc_58_168 rfl ?_
            have zc7 : (7 : Int32).toInt = 7 := by decide
            have zc2187 : (2187 : Int32).toInt = 2187 := by decide
            refine xw_lv (b := [(0, .ref 115), (2, .int x2), (3, .int x3), (4, .int x4), (5, .int 2187), (6, .int 7)]) (lvS_cons (lvS_cons (lvS_cons (lvS_cons (lvS_cons (lvS_cons (lvS_nil (show ([6, 5, 0, 2, 3, 4] : List Nat).Nodup by decide)) rfl) rfl) rfl) rfl) rfl) rfl) ?_
            exact i17 x2 x3 x4 hh29 (by omega) (by omega) K31 (by omega)
          · refine xi_iff (pc' := 90) kc_58_87 rfl (xc_eq_f (X := r28.toInt) (Y := 0) rfl (by decide) (by omega)) ?_
            refine xi_aload_n (pc' := 91) (x := 115) kc_58_90 rfl rfl ?_
            refine xi_getfield (pc' := 94) (v := .ref 155) kc_58_91 rfl rfl rfl A45 rfl ?_
            refine xi_iload_n (pc' := 95) (x := x3) kc_58_94 rfl rfl ?_
            refine xi_iload (pc' := 97) (x := 729) kc_58_95 rfl rfl ?_
            refine xcps2 (α := Int32) (x3 + 729) (fun v49 ev49 => ?_)
            have zv49 : v49.toInt = (x3.toInt + 729) := by rw [← ev49]; exact (xz_add (X := x3.toInt) (Y := 729) rfl (by decide) (by omega) (by omega)).trans (by omega)
            refine xi_iadd (pc' := 98) (v := v49) kc_58_97 rfl ev49 ?_
            have t50 : (-729) ≤ x3.toInt ∧ x3.toInt ≤ 5831 := by omega
            refine xcps4 (xk_arr K31.1 xD_155) (fun y51 A51 hy51 ry51 => ?_)
            refine xcps4 (xj_get hy51 ry51 (i := v49) (by rw [zv49]; omega) (by rw [zv49]; omega)) (fun v52 ev52 bv52 dv52 => ?_)
            refine xi_iaload (pc' := 99) (v := v52) kc_58_98 rfl A51 (by decide) rfl (xi_in (by rw [zv49]; omega) (by rw [hy51]; rw [zv49]; omega)) ev52 ?_
            refine xi_istore (pc' := 101) (lv' := [(7, .int v52), (0, .ref 115), (2, .int x2), (3, .int x3), (4, .int x4), (5, .int 729), (6, .int 6)]) kc_58_99 rfl rfl (xm_lt ml_58 rfl) ?_
            refine xi_aload_n (pc' := 102) (x := 115) kc_58_101 rfl rfl ?_
            refine xi_getfield (pc' := 105) (v := .ref 155) kc_58_102 rfl rfl rfl A45 rfl ?_
            refine xi_iload_n (pc' := 106) (x := x3) kc_58_105 rfl rfl ?_
            refine xi_iconst (pc' := 107) (v := 2) kc_58_106 rfl rfl ?_
            refine xi_iload (pc' := 109) (x := 729) kc_58_107 rfl rfl ?_
            refine xi_imul (pc' := 110) (v := 1458) kc_58_109 rfl rfl ?_
            refine xcps2 (α := Int32) (x3 + 1458) (fun v53 ev53 => ?_)
            have zv53 : v53.toInt = (x3.toInt + 1458) := by rw [← ev53]; exact (xz_add (X := x3.toInt) (Y := 1458) rfl (by decide) (by omega) (by omega)).trans (by omega)
            refine xi_iadd (pc' := 111) (v := v53) kc_58_110 rfl ev53 ?_
            have t54 : (-1458) ≤ x3.toInt ∧ x3.toInt ≤ 5102 := by omega
            refine xcps4 (xj_get hy51 ry51 (i := v53) (by rw [zv53]; omega) (by rw [zv53]; omega)) (fun v55 ev55 bv55 dv55 => ?_)
            refine xi_iaload (pc' := 112) (v := v55) kc_58_111 rfl A51 (by decide) rfl (xi_in (by rw [zv53]; omega) (by rw [hy51]; rw [zv53]; omega)) ev55 ?_
            refine xi_istore (pc' := 114) (lv' := [(8, .int v55), (7, .int v52), (0, .ref 115), (2, .int x2), (3, .int x3), (4, .int x4), (5, .int 729), (6, .int 6)]) kc_58_112 rfl rfl (xm_lt ml_58 rfl) ?_
            refine xi_aload_n (pc' := 115) (x := 115) kc_58_114 rfl rfl ?_
            refine xi_getfield (pc' := 118) (v := .ref 153) kc_58_115 rfl rfl rfl A45 rfl ?_
            refine xi_iload (pc' := 120) (x := 6) kc_58_118 rfl rfl ?_
            refine xcps4 (xk_arr K31.1 xD_153) (fun y56 A56 hy56 ry56 => ?_)
            refine xcps4 (xj_get hy56 ry56 (i := 6) (by decide) (by decide)) (fun v57 ev57 bv57 dv57 => ?_)
            refine xi_iaload (pc' := 121) (v := v57) kc_58_120 rfl A56 (by decide) rfl (xi_in (by decide) (by rw [hy56]; decide)) ev57 ?_
            refine xi_iload (pc' := 123) (x := v52) kc_58_121 rfl rfl ?_
            refine xi_iload (pc' := 125) (x := v55) kc_58_123 rfl rfl ?_
            by_cases c58 : v52.toInt ≤ v55.toInt
            · refine xi_cmt (pc' := 133) kc_58_125 rfl (xc_le_t (X := v52.toInt) (Y := v55.toInt) rfl rfl (by omega)) ?_
              refine xi_iload (pc' := 135) (x := v55) kc_58_133 rfl rfl ?_
              refine xcps2 (α := Int32) ((v57 : Int32) + v55) (fun v59 ev59 => ?_)
              have rv59 := xc_rng v59
              refine xi_iadd (pc' := 136) (v := v59) kc_58_135 rfl ev59 ?_
              refine xi_istore (pc' := 138) (lv' := [(9, .int v59), (8, .int v55), (7, .int v52), (0, .ref 115), (2, .int x2), (3, .int x3), (4, .int x4), (5, .int 729), (6, .int 6)]) kc_58_136 rfl rfl (xm_lt ml_58 rfl) ?_
              refine xi_iload (pc' := 140) (x := x4) kc_58_138 rfl rfl ?_
              by_cases c60 : x4.toInt < 0
              · refine xi_ift (pc' := 150) kc_58_140 rfl (xc_lt_t (X := x4.toInt) (Y := 0) rfl (by decide) (by omega)) ?_
                refine xi_iload (pc' := 152) (x := v59) kc_58_150 rfl rfl ?_
                refine xi_goto (pc' := 157) kc_58_152 rfl ?_
                refine xi_istore (pc' := 159) (lv' := [(4, .int v59), (9, .int v59), (8, .int v55), (7, .int v52), (0, .ref 115), (2, .int x2), (3, .int x3), (5, .int 729), (6, .int 6)]) kc_58_157 rfl rfl (xm_lt ml_58 rfl) ?_
                refine xi_iload (pc' := 161) (x := 729) kc_58_159 rfl rfl ?_
                refine xi_iconst (pc' := 162) (v := 3) kc_58_161 rfl rfl ?_
                refine xi_imul (pc' := 163) (v := 2187) kc_58_162 rfl rfl ?_
                refine xi_istore (pc' := 165) (lv' := [(5, .int 2187), (4, .int v59), (9, .int v59), (8, .int v55), (7, .int v52), (0, .ref 115), (2, .int x2), (3, .int x3), (6, .int 6)]) kc_58_163 rfl rfl (xm_lt ml_58 rfl) ?_
                refine xi_iinc (pc' := 168) (x := 6) (v := 7) (lv' := [(6, .int 7), (5, .int 2187), (4, .int v59), (9, .int v59), (8, .int v55), (7, .int v52), (0, .ref 115), (2, .int x2), (3, .int x3)]) kc_58_165 rfl rfl rfl rfl (xm_lt ml_58 rfl) ?_
                refine xi_goto (pc' := 62) kc_58_168 rfl ?_
                have zc7 : (7 : Int32).toInt = 7 := by decide
                have zc2187 : (2187 : Int32).toInt = 2187 := by decide
                refine xw_lv (b := [(0, .ref 115), (2, .int x2), (3, .int x3), (4, .int v59), (5, .int 2187), (6, .int 7)]) (lvS_cons (lvS_cons (lvS_cons (lvS_cons (lvS_cons (lvS_cons (lvS_nil (show ([6, 5, 4, 9, 8, 7, 0, 2, 3] : List Nat).Nodup by decide)) rfl) rfl) rfl) rfl) rfl) rfl) ?_
                exact i17 x2 x3 v59 hh29 (by omega) (by omega) K31 (by omega)
              · refine xi_iff (pc' := 143) kc_58_140 rfl (xc_lt_f (X := x4.toInt) (Y := 0) rfl (by decide) (by omega)) ?_
                refine xi_iload (pc' := 145) (x := v59) kc_58_143 rfl rfl ?_
                refine xi_iload (pc' := 147) (x := x4) kc_58_145 rfl rfl ?_
                by_cases c61 : x4.toInt ≤ v59.toInt
                · refine xi_cmt (pc' := 155) kc_58_147 rfl (xc_ge_t (X := v59.toInt) (Y := x4.toInt) rfl rfl (by omega)) ?_
                  refine xi_iload (pc' := 157) (x := x4) kc_58_155 rfl rfl ?_
                  refine xi_istore (pc' := 159) (lv' := [(4, .int x4), (9, .int v59), (8, .int v55), (7, .int v52), (0, .ref 115), (2, .int x2), (3, .int x3), (5, .int 729), (6, .int 6)]) kc_58_157 rfl rfl (xm_lt ml_58 rfl) ?_
                  refine xi_iload (pc' := 161) (x := 729) kc_58_159 rfl rfl ?_
                  refine xi_iconst (pc' := 162) (v := 3) kc_58_161 rfl rfl ?_
                  refine xi_imul (pc' := 163) (v := 2187) kc_58_162 rfl rfl ?_
                  refine xi_istore (pc' := 165) (lv' := [(5, .int 2187), (4, .int x4), (9, .int v59), (8, .int v55), (7, .int v52), (0, .ref 115), (2, .int x2), (3, .int x3), (6, .int 6)]) kc_58_163 rfl rfl (xm_lt ml_58 rfl) ?_
                  refine xi_iinc (pc' := 168) (x := 6) (v := 7) (lv' := [(6, .int 7), (5, .int 2187), (4, .int x4), (9, .int v59), (8, .int v55), (7, .int v52), (0, .ref 115), (2, .int x2), (3, .int x3)]) kc_58_165 rfl rfl rfl rfl (xm_lt ml_58 rfl) ?_
                  refine xi_goto (pc' := 62) kc_58_168 rfl ?_
                  have zc7 : (7 : Int32).toInt = 7 := by decide
                  have zc2187 : (2187 : Int32).toInt = 2187 := by decide
                  refine xw_lv (b := [(0, .ref 115), (2, .int x2), (3, .int x3), (4, .int x4), (5, .int 2187), (6, .int 7)]) (lvS_cons (lvS_cons (lvS_cons (lvS_cons (lvS_cons (lvS_cons (lvS_nil (show ([6, 5, 4, 9, 8, 7, 0, 2, 3] : List Nat).Nodup by decide)) rfl) rfl) rfl) rfl) rfl) rfl) ?_
                  exact i17 x2 x3 x4 hh29 (by omega) (by omega) K31 (by omega)
                · refine xi_cmf (pc' := 150) kc_58_147 rfl (xc_ge_f (X := v59.toInt) (Y := x4.toInt) rfl rfl (by omega)) ?_
                  refine xi_iload (pc' := 152) (x := v59) kc_58_150 rfl rfl ?_
                  refine xi_goto (pc' := 157) kc_58_152 rfl ?_
                  refine xi_istore (pc' := 159) (lv' := [(4, .int v59), (9, .int v59), (8, .int v55), (7, .int v52), (0, .ref 115), (2, .int x2), (3, .int x3), (5, .int 729), (6, .int 6)]) kc_58_157 rfl rfl (xm_lt ml_58 rfl) ?_
                  refine xi_iload (pc' := 161) (x := 729) kc_58_159 rfl rfl ?_
                  refine xi_iconst (pc' := 162) (v := 3) kc_58_161 rfl rfl ?_
                  refine xi_imul (pc' := 163) (v := 2187) kc_58_162 rfl rfl ?_
                  refine xi_istore (pc' := 165) (lv' := [(5, .int 2187), (4, .int v59), (9, .int v59), (8, .int v55), (7, .int v52), (0, .ref 115), (2, .int x2), (3, .int x3), (6, .int 6)]) kc_58_163 rfl rfl (xm_lt ml_58 rfl) ?_
                  refine xi_iinc (pc' := 168) (x := 6) (v := 7) (lv' := [(6, .int 7), (5, .int 2187), (4, .int v59), (9, .int v59), (8, .int v55), (7, .int v52), (0, .ref 115), (2, .int x2), (3, .int x3)]) kc_58_165 rfl rfl rfl rfl (xm_lt ml_58 rfl) ?_
                  refine xi_goto (pc' := 62) kc_58_168 rfl ?_
                  have zc7 : (7 : Int32).toInt = 7 := by decide
                  have zc2187 : (2187 : Int32).toInt = 2187 := by decide
                  refine xw_lv (b := [(0, .ref 115), (2, .int x2), (3, .int x3), (4, .int v59), (5, .int 2187), (6, .int 7)]) (lvS_cons (lvS_cons (lvS_cons (lvS_cons (lvS_cons (lvS_cons (lvS_nil (show ([6, 5, 4, 9, 8, 7, 0, 2, 3] : List Nat).Nodup by decide)) rfl) rfl) rfl) rfl) rfl) rfl) ?_
                  exact i17 x2 x3 v59 hh29 (by omega) (by omega) K31 (by omega)
            · refine xi_cmf (pc' := 128) kc_58_125 rfl (xc_le_f (X := v52.toInt) (Y := v55.toInt) rfl rfl (by omega)) ?_
              refine xi_iload (pc' := 130) (x := v52) kc_58_128 rfl rfl ?_
              refine xi_goto (pc' := 135) kc_58_130 rfl ?_
              refine xcps2 (α := Int32) ((v57 : Int32) + v52) (fun v62 ev62 => ?_)
              have rv62 := xc_rng v62
              refine xi_iadd (pc' := 136) (v := v62) kc_58_135 rfl ev62 ?_
              refine xi_istore (pc' := 138) (lv' := [(9, .int v62), (8, .int v55), (7, .int v52), (0, .ref 115), (2, .int x2), (3, .int x3), (4, .int x4), (5, .int 729), (6, .int 6)]) kc_58_136 rfl rfl (xm_lt ml_58 rfl) ?_
              refine xi_iload (pc' := 140) (x := x4) kc_58_138 rfl rfl ?_
              by_cases c63 : x4.toInt < 0
              · refine xi_ift (pc' := 150) kc_58_140 rfl (xc_lt_t (X := x4.toInt) (Y := 0) rfl (by decide) (by omega)) ?_
                refine xi_iload (pc' := 152) (x := v62) kc_58_150 rfl rfl ?_
                refine xi_goto (pc' := 157) kc_58_152 rfl ?_
                refine xi_istore (pc' := 159) (lv' := [(4, .int v62), (9, .int v62), (8, .int v55), (7, .int v52), (0, .ref 115), (2, .int x2), (3, .int x3), (5, .int 729), (6, .int 6)]) kc_58_157 rfl rfl (xm_lt ml_58 rfl) ?_
                refine xi_iload (pc' := 161) (x := 729) kc_58_159 rfl rfl ?_
                refine xi_iconst (pc' := 162) (v := 3) kc_58_161 rfl rfl ?_
                refine xi_imul (pc' := 163) (v := 2187) kc_58_162 rfl rfl ?_
                refine xi_istore (pc' := 165) (lv' := [(5, .int 2187), (4, .int v62), (9, .int v62), (8, .int v55), (7, .int v52), (0, .ref 115), (2, .int x2), (3, .int x3), (6, .int 6)]) kc_58_163 rfl rfl (xm_lt ml_58 rfl) ?_
                refine xi_iinc (pc' := 168) (x := 6) (v := 7) (lv' := [(6, .int 7), (5, .int 2187), (4, .int v62), (9, .int v62), (8, .int v55), (7, .int v52), (0, .ref 115), (2, .int x2), (3, .int x3)]) kc_58_165 rfl rfl rfl rfl (xm_lt ml_58 rfl) ?_
                refine xi_goto (pc' := 62) kc_58_168 rfl ?_
                have zc7 : (7 : Int32).toInt = 7 := by decide
                have zc2187 : (2187 : Int32).toInt = 2187 := by decide
                refine xw_lv (b := [(0, .ref 115), (2, .int x2), (3, .int x3), (4, .int v62), (5, .int 2187), (6, .int 7)]) (lvS_cons (lvS_cons (lvS_cons (lvS_cons (lvS_cons (lvS_cons (lvS_nil (show ([6, 5, 4, 9, 8, 7, 0, 2, 3] : List Nat).Nodup by decide)) rfl) rfl) rfl) rfl) rfl) rfl) ?_
                exact i17 x2 x3 v62 hh29 (by omega) (by omega) K31 (by omega)
              · refine xi_iff (pc' := 143) kc_58_140 rfl (xc_lt_f (X := x4.toInt) (Y := 0) rfl (by decide) (by omega)) ?_
                refine xi_iload (pc' := 145) (x := v62) kc_58_143 rfl rfl ?_
                refine xi_iload (pc' := 147) (x := x4) kc_58_145 rfl rfl ?_
                by_cases c64 : x4.toInt ≤ v62.toInt
                · refine xi_cmt (pc' := 155) kc_58_147 rfl (xc_ge_t (X := v62.toInt) (Y := x4.toInt) rfl rfl (by omega)) ?_
                  refine xi_iload (pc' := 157) (x := x4) kc_58_155 rfl rfl ?_
                  refine xi_istore (pc' := 159) (lv' := [(4, .int x4), (9, .int v62), (8, .int v55), (7, .int v52), (0, .ref 115), (2, .int x2), (3, .int x3), (5, .int 729), (6, .int 6)]) kc_58_157 rfl rfl (xm_lt ml_58 rfl) ?_
                  refine xi_iload (pc' := 161) (x := 729) kc_58_159 rfl rfl ?_
                  refine xi_iconst (pc' := 162) (v := 3) kc_58_161 rfl rfl ?_
                  refine xi_imul (pc' := 163) (v := 2187) kc_58_162 rfl rfl ?_
                  refine xi_istore (pc' := 165) (lv' := [(5, .int 2187), (4, .int x4), (9, .int v62), (8, .int v55), (7, .int v52), (0, .ref 115), (2, .int x2), (3, .int x3), (6, .int 6)]) kc_58_163 rfl rfl (xm_lt ml_58 rfl) ?_
                  refine xi_iinc (pc' := 168) (x := 6) (v := 7) (lv' := [(6, .int 7), (5, .int 2187), (4, .int x4), (9, .int v62), (8, .int v55), (7, .int v52), (0, .ref 115), (2, .int x2), (3, .int x3)]) kc_58_165 rfl rfl rfl rfl (xm_lt ml_58 rfl) ?_
                  refine xi_goto (pc' := 62) kc_58_168 rfl ?_
                  have zc7 : (7 : Int32).toInt = 7 := by decide
                  have zc2187 : (2187 : Int32).toInt = 2187 := by decide
                  refine xw_lv (b := [(0, .ref 115), (2, .int x2), (3, .int x3), (4, .int x4), (5, .int 2187), (6, .int 7)]) (lvS_cons (lvS_cons (lvS_cons (lvS_cons (lvS_cons (lvS_cons (lvS_nil (show ([6, 5, 4, 9, 8, 7, 0, 2, 3] : List Nat).Nodup by decide)) rfl) rfl) rfl) rfl) rfl) rfl) ?_
                  exact i17 x2 x3 x4 hh29 (by omega) (by omega) K31 (by omega)
                · refine xi_cmf (pc' := 150) kc_58_147 rfl (xc_ge_f (X := v62.toInt) (Y := x4.toInt) rfl rfl (by omega)) ?_
                  refine xi_iload (pc' := 152) (x := v62) kc_58_150 rfl rfl ?_
                  refine xi_goto (pc' := 157) kc_58_152 rfl ?_
                  refine xi_istore (pc' := 159) (lv' := [(4, .int v62), (9, .int v62), (8, .int v55), (7, .int v52), (0, .ref 115), (2, .int x2), (3, .int x3), (5, .int 729), (6, .int 6)]) kc_58_157 rfl rfl (xm_lt ml_58 rfl) ?_
                  refine xi_iload (pc' := 161) (x := 729) kc_58_159 rfl rfl ?_
                  refine xi_iconst (pc' := 162) (v := 3) kc_58_161 rfl rfl ?_
                  refine xi_imul (pc' := 163) (v := 2187) kc_58_162 rfl rfl ?_
                  refine xi_istore (pc' := 165) (lv' := [(5, .int 2187), (4, .int v62), (9, .int v62), (8, .int v55), (7, .int v52), (0, .ref 115), (2, .int x2), (3, .int x3), (6, .int 6)]) kc_58_163 rfl rfl (xm_lt ml_58 rfl) ?_
                  refine xi_iinc (pc' := 168) (x := 6) (v := 7) (lv' := [(6, .int 7), (5, .int 2187), (4, .int v62), (9, .int v62), (8, .int v55), (7, .int v52), (0, .ref 115), (2, .int x2), (3, .int x3)]) kc_58_165 rfl rfl rfl rfl (xm_lt ml_58 rfl) ?_
                  refine xi_goto (pc' := 62) kc_58_168 rfl ?_
                  have zc7 : (7 : Int32).toInt = 7 := by decide
                  have zc2187 : (2187 : Int32).toInt = 2187 := by decide
                  refine xw_lv (b := [(0, .ref 115), (2, .int x2), (3, .int x3), (4, .int v62), (5, .int 2187), (6, .int 7)]) (lvS_cons (lvS_cons (lvS_cons (lvS_cons (lvS_cons (lvS_cons (lvS_nil (show ([6, 5, 4, 9, 8, 7, 0, 2, 3] : List Nat).Nodup by decide)) rfl) rfl) rfl) rfl) rfl) rfl) ?_
                  exact i17 x2 x3 v62 hh29 (by omega) (by omega) K31 (by omega)
        · refine xi_ift (pc' := 159) kc_58_77 rfl (xc_ne_t (X := v26.toInt) (Y := 0) rfl (by decide) (by omega)) ?_
          refine xi_iload (pc' := 161) (x := 729) kc_58_159 rfl rfl ?_
          refine xi_iconst (pc' := 162) (v := 3) kc_58_161 rfl rfl ?_
          refine xi_imul (pc' := 163) (v := 2187) kc_58_162 rfl rfl ?_
          refine xi_istore (pc' := 165) (lv' := [(5, .int 2187), (0, .ref 115), (2, .int x2), (3, .int x3), (4, .int x4), (6, .int 6)]) kc_58_163 rfl rfl (xm_lt ml_58 rfl) ?_
          refine xi_iinc (pc' := 168) (x := 6) (v := 7) (lv' := [(6, .int 7), (5, .int 2187), (0, .ref 115), (2, .int x2), (3, .int x3), (4, .int x4)]) kc_58_165 rfl rfl rfl rfl (xm_lt ml_58 rfl) ?_
          refine xi_goto (pc' := 62) kc_58_168 rfl ?_
          have zc7 : (7 : Int32).toInt = 7 := by decide
          have zc2187 : (2187 : Int32).toInt = 2187 := by decide
          refine xw_lv (b := [(0, .ref 115), (2, .int x2), (3, .int x3), (4, .int x4), (5, .int 2187), (6, .int 7)]) (lvS_cons (lvS_cons (lvS_cons (lvS_cons (lvS_cons (lvS_cons (lvS_nil (show ([6, 5, 0, 2, 3, 4] : List Nat).Nodup by decide)) rfl) rfl) rfl) rfl) rfl) rfl) ?_
          exact i17 x2 x3 x4 h (by omega) (by omega) K (by omega)
    · intro x2 x3 x4 h b2 b3 K hm
      have rx4 := xc_rng x4
      refine xi_iload (pc' := 64) (x := 7) kc_58_62 rfl rfl ?_
      refine xi_aload_n (pc' := 65) (x := 115) kc_58_64 rfl rfl ?_
      refine xp_115 K.1 (fun u1 u2 u3 u4 u5 u6 u7 u8 u9 u10 u11 u12 u13 bu1 bu2 bu3 bu4 bu5 bu6 bu7 bu8 bu9 bu10 bu11 bu12 bu13 A14 => ?_)
      refine xi_getfield (pc' := 68) (v := .int u10) kc_58_65 rfl rfl rfl A14 rfl ?_
      by_cases c15 : u10.toInt ≤ 7
      · refine xi_cmt (pc' := 171) kc_58_68 rfl (xc_ge_t (X := 7) (Y := u10.toInt) (by decide) rfl (by omega)) ?_
        refine xi_aload_n (pc' := 172) (x := 115) kc_58_171 rfl rfl ?_
        refine xi_getfield (pc' := 175) (v := .ref 155) kc_58_172 rfl rfl rfl A14 rfl ?_
        refine xi_iload_n (pc' := 176) (x := x3) kc_58_175 rfl rfl ?_
        refine xi_iload (pc' := 178) (x := x4) kc_58_176 rfl rfl ?_
        by_cases c16 : 0 ≤ x4.toInt
        · refine xi_ift (pc' := 185) kc_58_178 rfl (xc_ge_t (X := x4.toInt) (Y := 0) rfl (by decide) (by omega)) ?_
          refine xi_iload (pc' := 187) (x := x4) kc_58_185 rfl rfl ?_
          refine xcps4 (xk_arr K.1 xD_155) (fun y17 A17 hy17 ry17 => ?_)
          refine xcps4 (xj_set (v := x4) hy17 ry17 x3 (by first | omega | decide) (by first | omega | decide)) (fun y18 s18 hy18 ry18 => ?_)
          refine xi_iastore (pc' := 188) (x' := y18) kc_58_187 rfl A17 rfl (xi_in (by omega) (by rw [hy17]; omega)) s18 (fun hh18 eh18 => ?_)
          have K19 := xk_pa K (xk_wa rfl) xD_155 hy18 ry18 eh18
          refine xcps2 (α := Int32) (x3 + (-1)) (fun v20 ev20 => ?_)
          have zv20 : v20.toInt = (x3.toInt + (-1)) := by rw [← ev20]; exact (xz_add (X := x3.toInt) (Y := (-1)) rfl (by decide) (by omega) (by omega)).trans (by omega)
          refine xi_iinc (pc' := 191) (x := x3) (v := v20) (lv' := [(3, .int v20), (0, .ref 115), (2, .int x2), (4, .int x4), (5, .int 2187), (6, .int 7)]) kc_58_188 rfl rfl ev20 rfl (xm_lt ml_58 rfl) ?_
          refine xi_goto (pc' := 48) kc_58_191 rfl ?_
          refine xw_lv (b := [(0, .ref 115), (2, .int x2), (3, .int v20)]) (lvS_cons (lvS_cons (lvS_cons (lvS_nil (show ([3, 0, 2, 4, 5, 6] : List Nat).Nodup by decide)) rfl) rfl) rfl) ?_
          exact i9 x2 v20 hh18 (by omega) (by omega) K19 (by omega)
        · refine xi_iff (pc' := 181) kc_58_178 rfl (xc_ge_f (X := x4.toInt) (Y := 0) rfl (by decide) (by omega)) ?_
          refine xi_iconst (pc' := 182) (v := 0) kc_58_181 rfl rfl ?_
          refine xi_goto (pc' := 187) kc_58_182 rfl ?_
          refine xcps4 (xk_arr K.1 xD_155) (fun y21 A21 hy21 ry21 => ?_)
          refine xcps4 (xj_set (v := 0) hy21 ry21 x3 (by first | omega | decide) (by first | omega | decide)) (fun y22 s22 hy22 ry22 => ?_)
          refine xi_iastore (pc' := 188) (x' := y22) kc_58_187 rfl A21 rfl (xi_in (by omega) (by rw [hy21]; omega)) s22 (fun hh22 eh22 => ?_)
          have K23 := xk_pa K (xk_wa rfl) xD_155 hy22 ry22 eh22
          refine xcps2 (α := Int32) (x3 + (-1)) (fun v24 ev24 => ?_)
          have zv24 : v24.toInt = (x3.toInt + (-1)) := by rw [← ev24]; exact (xz_add (X := x3.toInt) (Y := (-1)) rfl (by decide) (by omega) (by omega)).trans (by omega)
          refine xi_iinc (pc' := 191) (x := x3) (v := v24) (lv' := [(3, .int v24), (0, .ref 115), (2, .int x2), (4, .int x4), (5, .int 2187), (6, .int 7)]) kc_58_188 rfl rfl ev24 rfl (xm_lt ml_58 rfl) ?_
          refine xi_goto (pc' := 48) kc_58_191 rfl ?_
          refine xw_lv (b := [(0, .ref 115), (2, .int x2), (3, .int v24)]) (lvS_cons (lvS_cons (lvS_cons (lvS_nil (show ([3, 0, 2, 4, 5, 6] : List Nat).Nodup by decide)) rfl) rfl) rfl) ?_
          exact i9 x2 v24 hh22 (by omega) (by omega) K23 (by omega)
      · refine xi_cmf (pc' := 71) kc_58_68 rfl (xc_ge_f (X := 7) (Y := u10.toInt) (by decide) rfl (by omega)) ?_
        refine xi_iload_n (pc' := 72) (x := x3) kc_58_71 rfl rfl ?_
        refine xi_iload (pc' := 74) (x := 2187) kc_58_72 rfl rfl ?_
        refine xcps2 (α := Int32) (x3 / 2187) (fun v25 ev25 => ?_)
        have dv25 : v25.toInt = x3.toInt / 2187 := by rw [← ev25]; exact xz_dive (X := x3.toInt) (Y := 2187) rfl (by decide) (by omega) (by decide)
        have bv25 : 0 ≤ v25.toInt ∧ v25.toInt ≤ 2 := by omega
        refine xi_idiv (pc' := 75) (v := v25) kc_58_74 rfl ev25 (by decide) ?_
        refine xi_iconst (pc' := 76) (v := 3) kc_58_75 rfl rfl ?_
        refine xcps2 (α := Int32) (v25 - v25 / 3 * 3) (fun v26 ev26 => ?_)
        have dv26 : v26.toInt = v25.toInt % 3 := by rw [← ev26]; exact xz_reme (X := v25.toInt) (Y := 3) rfl (by decide) (by omega) (by decide)
        have bv26 : 0 ≤ v26.toInt ∧ v26.toInt ≤ 2 := by omega
        refine xi_irem (pc' := 77) (v := v26) kc_58_76 rfl ev26 (by decide) ?_
        by_cases c27 : v26.toInt = 0
        · refine xi_iff (pc' := 80) kc_58_77 rfl (xc_ne_f (X := v26.toInt) (Y := 0) rfl (by decide) (by omega)) ?_
          refine xi_aload_n (pc' := 81) (x := 115) kc_58_80 rfl rfl ?_
          refine xi_iload_n (pc' := 82) (x := x3) kc_58_81 rfl rfl ?_
          refine xi_iload (pc' := 84) (x := 7) kc_58_82 rfl rfl ?_
          refine xi_virtual (mj := 59) (as := [.int x3, .int 7]) (st1 := []) (lv0 := [(0, .ref 115), (1, .int x3), (2, .int 7)]) kc_58_84 rfl rfl rfl rfl rfl A14 (Nat.le_of_ble_eq_true rfl) (hJ _ _ _ _ (by decide)) (xm_le ml_59 rfl) rfl ?_
          have zc7 : (7 : Int32).toInt = 7 := by decide
          refine mt_59_0 hJ hov1 hov2 (d := d + 3) (x1 := x3) (x2 := 7) K.1 (by first | omega | decide) (by first | omega | decide) (fun r28 hh29 br28 K30 => ?_)
          have K31 := xk_tr K K30 rfl
          refine xp_115 K31.1 (fun u32 u33 u34 u35 u36 u37 u38 u39 u40 u41 u42 u43 u44 bu32 bu33 bu34 bu35 bu36 bu37 bu38 bu39 bu40 bu41 bu42 bu43 bu44 A45 => ?_)
          have e46 : u2 = u33 := xk_eqi (q := 1) K30 rfl A14 A45 rfl rfl
          subst e46
          have e47 : u4 = u35 := xk_eqi (q := 18) K30 rfl A14 A45 rfl rfl
          subst e47
          show xw J ov (d + 7) 58 (87, [(0, .ref 115), (2, .int x2), (3, .int x3), (4, .int x4), (5, .int 2187), (6, .int 7)], [.int r28], hh29) _
          by_cases c48 : r28.toInt = 0
          · refine xi_ift (pc' := 159) kc_58_87 rfl (xc_eq_t (X := r28.toInt) (Y := 0) rfl (by decide) (by omega)) ?_
            refine xi_iload (pc' := 161) (x := 2187) kc_58_159 rfl rfl ?_
            refine xi_iconst (pc' := 162) (v := 3) kc_58_161 rfl rfl ?_
            refine xi_imul (pc' := 163) (v := 6561) kc_58_162 rfl rfl ?_
            refine xi_istore (pc' := 165) (lv' := [(5, .int 6561), (0, .ref 115), (2, .int x2), (3, .int x3), (4, .int x4), (6, .int 7)]) kc_58_163 rfl rfl (xm_lt ml_58 rfl) ?_
            refine xi_iinc (pc' := 168) (x := 7) (v := 8) (lv' := [(6, .int 8), (5, .int 6561), (0, .ref 115), (2, .int x2), (3, .int x3), (4, .int x4)]) kc_58_165 rfl rfl rfl rfl (xm_lt ml_58 rfl) ?_
            refine xi_goto (pc' := 62) kc_58_168 rfl ?_
            have zc8 : (8 : Int32).toInt = 8 := by decide
            have zc6561 : (6561 : Int32).toInt = 6561 := by decide
            refine xw_lv (b := [(0, .ref 115), (2, .int x2), (3, .int x3), (4, .int x4), (5, .int 6561), (6, .int 8)]) (lvS_cons (lvS_cons (lvS_cons (lvS_cons (lvS_cons (lvS_cons (lvS_nil (show ([6, 5, 0, 2, 3, 4] : List Nat).Nodup by decide)) rfl) rfl) rfl) rfl) rfl) rfl) ?_
            exact i18 x2 x3 x4 hh29 (by omega) (by omega) K31 (by omega)
          · refine xi_iff (pc' := 90) kc_58_87 rfl (xc_eq_f (X := r28.toInt) (Y := 0) rfl (by decide) (by omega)) ?_
            refine xi_aload_n (pc' := 91) (x := 115) kc_58_90 rfl rfl ?_
            refine xi_getfield (pc' := 94) (v := .ref 155) kc_58_91 rfl rfl rfl A45 rfl ?_
            refine xi_iload_n (pc' := 95) (x := x3) kc_58_94 rfl rfl ?_
            refine xi_iload (pc' := 97) (x := 2187) kc_58_95 rfl rfl ?_
            refine xcps2 (α := Int32) (x3 + 2187) (fun v49 ev49 => ?_)
            have zv49 : v49.toInt = (x3.toInt + 2187) := by rw [← ev49]; exact (xz_add (X := x3.toInt) (Y := 2187) rfl (by decide) (by omega) (by omega)).trans (by omega)
            refine xi_iadd (pc' := 98) (v := v49) kc_58_97 rfl ev49 ?_
            have t50 : (-2187) ≤ x3.toInt ∧ x3.toInt ≤ 4373 := by omega
            refine xcps4 (xk_arr K31.1 xD_155) (fun y51 A51 hy51 ry51 => ?_)
            refine xcps4 (xj_get hy51 ry51 (i := v49) (by rw [zv49]; omega) (by rw [zv49]; omega)) (fun v52 ev52 bv52 dv52 => ?_)
            refine xi_iaload (pc' := 99) (v := v52) kc_58_98 rfl A51 (by decide) rfl (xi_in (by rw [zv49]; omega) (by rw [hy51]; rw [zv49]; omega)) ev52 ?_
            refine xi_istore (pc' := 101) (lv' := [(7, .int v52), (0, .ref 115), (2, .int x2), (3, .int x3), (4, .int x4), (5, .int 2187), (6, .int 7)]) kc_58_99 rfl rfl (xm_lt ml_58 rfl) ?_
            refine xi_aload_n (pc' := 102) (x := 115) kc_58_101 rfl rfl ?_
            refine xi_getfield (pc' := 105) (v := .ref 155) kc_58_102 rfl rfl rfl A45 rfl ?_
            refine xi_iload_n (pc' := 106) (x := x3) kc_58_105 rfl rfl ?_
            refine xi_iconst (pc' := 107) (v := 2) kc_58_106 rfl rfl ?_
            refine xi_iload (pc' := 109) (x := 2187) kc_58_107 rfl rfl ?_
            refine xi_imul (pc' := 110) (v := 4374) kc_58_109 rfl rfl ?_
            refine xcps2 (α := Int32) (x3 + 4374) (fun v53 ev53 => ?_)
            have zv53 : v53.toInt = (x3.toInt + 4374) := by rw [← ev53]; exact (xz_add (X := x3.toInt) (Y := 4374) rfl (by decide) (by omega) (by omega)).trans (by omega)
            refine xi_iadd (pc' := 111) (v := v53) kc_58_110 rfl ev53 ?_
            have t54 : (-4374) ≤ x3.toInt ∧ x3.toInt ≤ 2186 := by omega
            refine xcps4 (xj_get hy51 ry51 (i := v53) (by rw [zv53]; omega) (by rw [zv53]; omega)) (fun v55 ev55 bv55 dv55 => ?_)
            refine xi_iaload (pc' := 112) (v := v55) kc_58_111 rfl A51 (by decide) rfl (xi_in (by rw [zv53]; omega) (by rw [hy51]; rw [zv53]; omega)) ev55 ?_
            refine xi_istore (pc' := 114) (lv' := [(8, .int v55), (7, .int v52), (0, .ref 115), (2, .int x2), (3, .int x3), (4, .int x4), (5, .int 2187), (6, .int 7)]) kc_58_112 rfl rfl (xm_lt ml_58 rfl) ?_
            refine xi_aload_n (pc' := 115) (x := 115) kc_58_114 rfl rfl ?_
            refine xi_getfield (pc' := 118) (v := .ref 153) kc_58_115 rfl rfl rfl A45 rfl ?_
            refine xi_iload (pc' := 120) (x := 7) kc_58_118 rfl rfl ?_
            refine xcps4 (xk_arr K31.1 xD_153) (fun y56 A56 hy56 ry56 => ?_)
            refine xcps4 (xj_get hy56 ry56 (i := 7) (by decide) (by decide)) (fun v57 ev57 bv57 dv57 => ?_)
            refine xi_iaload (pc' := 121) (v := v57) kc_58_120 rfl A56 (by decide) rfl (xi_in (by decide) (by rw [hy56]; decide)) ev57 ?_
            refine xi_iload (pc' := 123) (x := v52) kc_58_121 rfl rfl ?_
            refine xi_iload (pc' := 125) (x := v55) kc_58_123 rfl rfl ?_
            by_cases c58 : v52.toInt ≤ v55.toInt
            · refine xi_cmt (pc' := 133) kc_58_125 rfl (xc_le_t (X := v52.toInt) (Y := v55.toInt) rfl rfl (by omega)) ?_
              refine xi_iload (pc' := 135) (x := v55) kc_58_133 rfl rfl ?_
              refine xcps2 (α := Int32) ((v57 : Int32) + v55) (fun v59 ev59 => ?_)
              have rv59 := xc_rng v59
              refine xi_iadd (pc' := 136) (v := v59) kc_58_135 rfl ev59 ?_
              refine xi_istore (pc' := 138) (lv' := [(9, .int v59), (8, .int v55), (7, .int v52), (0, .ref 115), (2, .int x2), (3, .int x3), (4, .int x4), (5, .int 2187), (6, .int 7)]) kc_58_136 rfl rfl (xm_lt ml_58 rfl) ?_
              refine xi_iload (pc' := 140) (x := x4) kc_58_138 rfl rfl ?_
              by_cases c60 : x4.toInt < 0
              · refine xi_ift (pc' := 150) kc_58_140 rfl (xc_lt_t (X := x4.toInt) (Y := 0) rfl (by decide) (by omega)) ?_
                refine xi_iload (pc' := 152) (x := v59) kc_58_150 rfl rfl ?_
                refine xi_goto (pc' := 157) kc_58_152 rfl ?_
                refine xi_istore (pc' := 159) (lv' := [(4, .int v59), (9, .int v59), (8, .int v55), (7, .int v52), (0, .ref 115), (2, .int x2), (3, .int x3), (5, .int 2187), (6, .int 7)]) kc_58_157 rfl rfl (xm_lt ml_58 rfl) ?_
                refine xi_iload (pc' := 161) (x := 2187) kc_58_159 rfl rfl ?_
                refine xi_iconst (pc' := 162) (v := 3) kc_58_161 rfl rfl ?_
                refine xi_imul (pc' := 163) (v := 6561) kc_58_162 rfl rfl ?_
                refine xi_istore (pc' := 165) (lv' := [(5, .int 6561), (4, .int v59), (9, .int v59), (8, .int v55), (7, .int v52), (0, .ref 115), (2, .int x2), (3, .int x3), (6, .int 7)]) kc_58_163 rfl rfl (xm_lt ml_58 rfl) ?_
                refine xi_iinc (pc' := 168) (x := 7) (v := 8) (lv' := [(6, .int 8), (5, .int 6561), (4, .int v59), (9, .int v59), (8, .int v55), (7, .int v52), (0, .ref 115), (2, .int x2), (3, .int x3)]) kc_58_165 rfl rfl rfl rfl (xm_lt ml_58 rfl) ?_
                refine xi_goto (pc' := 62) kc_58_168 rfl ?_
                have zc8 : (8 : Int32).toInt = 8 := by decide
                have zc6561 : (6561 : Int32).toInt = 6561 := by decide
                refine xw_lv (b := [(0, .ref 115), (2, .int x2), (3, .int x3), (4, .int v59), (5, .int 6561), (6, .int 8)]) (lvS_cons (lvS_cons (lvS_cons (lvS_cons (lvS_cons (lvS_cons (lvS_nil (show ([6, 5, 4, 9, 8, 7, 0, 2, 3] : List Nat).Nodup by decide)) rfl) rfl) rfl) rfl) rfl) rfl) ?_
                exact i18 x2 x3 v59 hh29 (by omega) (by omega) K31 (by omega)
              · refine xi_iff (pc' := 143) kc_58_140 rfl (xc_lt_f (X := x4.toInt) (Y := 0) rfl (by decide) (by omega)) ?_
                refine xi_iload (pc' := 145) (x := v59) kc_58_143 rfl rfl ?_
                refine xi_iload (pc' := 147) (x := x4) kc_58_145 rfl rfl ?_
                by_cases c61 : x4.toInt ≤ v59.toInt
                · refine xi_cmt (pc' := 155) kc_58_147 rfl (xc_ge_t (X := v59.toInt) (Y := x4.toInt) rfl rfl (by omega)) ?_
                  refine xi_iload (pc' := 157) (x := x4) kc_58_155 rfl rfl ?_
                  refine xi_istore (pc' := 159) (lv' := [(4, .int x4), (9, .int v59), (8, .int v55), (7, .int v52), (0, .ref 115), (2, .int x2), (3, .int x3), (5, .int 2187), (6, .int 7)]) kc_58_157 rfl rfl (xm_lt ml_58 rfl) ?_
                  refine xi_iload (pc' := 161) (x := 2187) kc_58_159 rfl rfl ?_
                  refine xi_iconst (pc' := 162) (v := 3) kc_58_161 rfl rfl ?_
                  refine xi_imul (pc' := 163) (v := 6561) kc_58_162 rfl rfl ?_
                  refine xi_istore (pc' := 165) (lv' := [(5, .int 6561), (4, .int x4), (9, .int v59), (8, .int v55), (7, .int v52), (0, .ref 115), (2, .int x2), (3, .int x3), (6, .int 7)]) kc_58_163 rfl rfl (xm_lt ml_58 rfl) ?_
                  refine xi_iinc (pc' := 168) (x := 7) (v := 8) (lv' := [(6, .int 8), (5, .int 6561), (4, .int x4), (9, .int v59), (8, .int v55), (7, .int v52), (0, .ref 115), (2, .int x2), (3, .int x3)]) kc_58_165 rfl rfl rfl rfl (xm_lt ml_58 rfl) ?_
                  refine xi_goto (pc' := 62) kc_58_168 rfl ?_
                  have zc8 : (8 : Int32).toInt = 8 := by decide
                  have zc6561 : (6561 : Int32).toInt = 6561 := by decide
                  refine xw_lv (b := [(0, .ref 115), (2, .int x2), (3, .int x3), (4, .int x4), (5, .int 6561), (6, .int 8)]) (lvS_cons (lvS_cons (lvS_cons (lvS_cons (lvS_cons (lvS_cons (lvS_nil (show ([6, 5, 4, 9, 8, 7, 0, 2, 3] : List Nat).Nodup by decide)) rfl) rfl) rfl) rfl) rfl) rfl) ?_
                  exact i18 x2 x3 x4 hh29 (by omega) (by omega) K31 (by omega)
                · refine xi_cmf (pc' := 150) kc_58_147 rfl (xc_ge_f (X := v59.toInt) (Y := x4.toInt) rfl rfl (by omega)) ?_
                  refine xi_iload (pc' := 152) (x := v59) kc_58_150 rfl rfl ?_
                  refine xi_goto (pc' := 157) kc_58_152 rfl ?_
                  refine xi_istore (pc' := 159) (lv' := [(4, .int v59), (9, .int v59), (8, .int v55), (7, .int v52), (0, .ref 115), (2, .int x2), (3, .int x3), (5, .int 2187), (6, .int 7)]) kc_58_157 rfl rfl (xm_lt ml_58 rfl) ?_
                  refine xi_iload (pc' := 161) (x := 2187) kc_58_159 rfl rfl ?_
                  refine xi_iconst (pc' := 162) (v := 3) kc_58_161 rfl rfl ?_
                  refine xi_imul (pc' := 163) (v := 6561) kc_58_162 rfl rfl ?_
                  refine xi_istore (pc' := 165) (lv' := [(5, .int 6561), (4, .int v59), (9, .int v59), (8, .int v55), (7, .int v52), (0, .ref 115), (2, .int x2), (3, .int x3), (6, .int 7)]) kc_58_163 rfl rfl (xm_lt ml_58 rfl) ?_
                  refine xi_iinc (pc' := 168) (x := 7) (v := 8) (lv' := [(6, .int 8), (5, .int 6561), (4, .int v59), (9, .int v59), (8, .int v55), (7, .int v52), (0, .ref 115), (2, .int x2), (3, .int x3)]) kc_58_165 rfl rfl rfl rfl (xm_lt ml_58 rfl) ?_
                  refine xi_goto (pc' := 62) kc_58_168 rfl ?_
                  have zc8 : (8 : Int32).toInt = 8 := by decide
                  have zc6561 : (6561 : Int32).toInt = 6561 := by decide
                  refine xw_lv (b := [(0, .ref 115), (2, .int x2), (3, .int x3), (4, .int v59), (5, .int 6561), (6, .int 8)]) (lvS_cons (lvS_cons (lvS_cons (lvS_cons (lvS_cons (lvS_cons (lvS_nil (show ([6, 5, 4, 9, 8, 7, 0, 2, 3] : List Nat).Nodup by decide)) rfl) rfl) rfl) rfl) rfl) rfl) ?_
                  exact i18 x2 x3 v59 hh29 (by omega) (by omega) K31 (by omega)
            · refine xi_cmf (pc' := 128) kc_58_125 rfl (xc_le_f (X := v52.toInt) (Y := v55.toInt) rfl rfl (by omega)) ?_
              refine xi_iload (pc' := 130) (x := v52) kc_58_128 rfl rfl ?_
              refine xi_goto (pc' := 135) kc_58_130 rfl ?_
              refine xcps2 (α := Int32) ((v57 : Int32) + v52) (fun v62 ev62 => ?_)
              have rv62 := xc_rng v62
              refine xi_iadd (pc' := 136) (v := v62) kc_58_135 rfl ev62 ?_
              refine xi_istore (pc' := 138) (lv' := [(9, .int v62), (8, .int v55), (7, .int v52), (0, .ref 115), (2, .int x2), (3, .int x3), (4, .int x4), (5, .int 2187), (6, .int 7)]) kc_58_136 rfl rfl (xm_lt ml_58 rfl) ?_
              refine xi_iload (pc' := 140) (x := x4) kc_58_138 rfl rfl ?_
              by_cases c63 : x4.toInt < 0
              · refine xi_ift (pc' := 150) kc_58_140 rfl (xc_lt_t (X := x4.toInt) (Y := 0) rfl (by decide) (by omega)) ?_
                refine xi_iload (pc' := 152) (x := v62) kc_58_150 rfl rfl ?_
                refine xi_goto (pc' := 157) kc_58_152 rfl ?_
                refine xi_istore (pc' := 159) (lv' := [(4, .int v62), (9, .int v62), (8, .int v55), (7, .int v52), (0, .ref 115), (2, .int x2), (3, .int x3), (5, .int 2187), (6, .int 7)]) kc_58_157 rfl rfl (xm_lt ml_58 rfl) ?_
                refine xi_iload (pc' := 161) (x := 2187) kc_58_159 rfl rfl ?_
                refine xi_iconst (pc' := 162) (v := 3) kc_58_161 rfl rfl ?_
                refine xi_imul (pc' := 163) (v := 6561) kc_58_162 rfl rfl ?_
                refine xi_istore (pc' := 165) (lv' := [(5, .int 6561), (4, .int v62), (9, .int v62), (8, .int v55), (7, .int v52), (0, .ref 115), (2, .int x2), (3, .int x3), (6, .int 7)]) kc_58_163 rfl rfl (xm_lt ml_58 rfl) ?_
                refine xi_iinc (pc' := 168) (x := 7) (v := 8) (lv' := [(6, .int 8), (5, .int 6561), (4, .int v62), (9, .int v62), (8, .int v55), (7, .int v52), (0, .ref 115), (2, .int x2), (3, .int x3)]) kc_58_165 rfl rfl rfl rfl (xm_lt ml_58 rfl) ?_
                refine xi_goto (pc' := 62) kc_58_168 rfl ?_
                have zc8 : (8 : Int32).toInt = 8 := by decide
                have zc6561 : (6561 : Int32).toInt = 6561 := by decide
                refine xw_lv (b := [(0, .ref 115), (2, .int x2), (3, .int x3), (4, .int v62), (5, .int 6561), (6, .int 8)]) (lvS_cons (lvS_cons (lvS_cons (lvS_cons (lvS_cons (lvS_cons (lvS_nil (show ([6, 5, 4, 9, 8, 7, 0, 2, 3] : List Nat).Nodup by decide)) rfl) rfl) rfl) rfl) rfl) rfl) ?_
                exact i18 x2 x3 v62 hh29 (by omega) (by omega) K31 (by omega)
              · refine xi_iff (pc' := 143) kc_58_140 rfl (xc_lt_f (X := x4.toInt) (Y := 0) rfl (by decide) (by omega)) ?_
                refine xi_iload (pc' := 145) (x := v62) kc_58_143 rfl rfl ?_
                refine xi_iload (pc' := 147) (x := x4) kc_58_145 rfl rfl ?_
                by_cases c64 : x4.toInt ≤ v62.toInt
                · refine xi_cmt (pc' := 155) kc_58_147 rfl (xc_ge_t (X := v62.toInt) (Y := x4.toInt) rfl rfl (by omega)) ?_
                  refine xi_iload (pc' := 157) (x := x4) kc_58_155 rfl rfl ?_
                  refine xi_istore (pc' := 159) (lv' := [(4, .int x4), (9, .int v62), (8, .int v55), (7, .int v52), (0, .ref 115), (2, .int x2), (3, .int x3), (5, .int 2187), (6, .int 7)]) kc_58_157 rfl rfl (xm_lt ml_58 rfl) ?_
                  refine xi_iload (pc' := 161) (x := 2187) kc_58_159 rfl rfl ?_
                  refine xi_iconst (pc' := 162) (v := 3) kc_58_161 rfl rfl ?_
                  refine xi_imul (pc' := 163) (v := 6561) kc_58_162 rfl rfl ?_
                  refine xi_istore (pc' := 165) (lv' := [(5, .int 6561), (4, .int x4), (9, .int v62), (8, .int v55), (7, .int v52), (0, .ref 115), (2, .int x2), (3, .int x3), (6, .int 7)]) kc_58_163 rfl rfl (xm_lt ml_58 rfl) ?_
                  refine xi_iinc (pc' := 168) (x := 7) (v := 8) (lv' := [(6, .int 8), (5, .int 6561), (4, .int x4), (9, .int v62), (8, .int v55), (7, .int v52), (0, .ref 115), (2, .int x2), (3, .int x3)]) kc_58_165 rfl rfl rfl rfl (xm_lt ml_58 rfl) ?_
                  refine xi_goto (pc' := 62) kc_58_168 rfl ?_
                  have zc8 : (8 : Int32).toInt = 8 := by decide
                  have zc6561 : (6561 : Int32).toInt = 6561 := by decide
                  refine xw_lv (b := [(0, .ref 115), (2, .int x2), (3, .int x3), (4, .int x4), (5, .int 6561), (6, .int 8)]) (lvS_cons (lvS_cons (lvS_cons (lvS_cons (lvS_cons (lvS_cons (lvS_nil (show ([6, 5, 4, 9, 8, 7, 0, 2, 3] : List Nat).Nodup by decide)) rfl) rfl) rfl) rfl) rfl) rfl) ?_
                  exact i18 x2 x3 x4 hh29 (by omega) (by omega) K31 (by omega)
                · refine xi_cmf (pc' := 150) kc_58_147 rfl (xc_ge_f (X := v62.toInt) (Y := x4.toInt) rfl rfl (by omega)) ?_
                  refine xi_iload (pc' := 152) (x := v62) kc_58_150 rfl rfl ?_
                  refine xi_goto (pc' := 157) kc_58_152 rfl ?_
                  refine xi_istore (pc' := 159) (lv' := [(4, .int v62), (9, .int v62), (8, .int v55), (7, .int v52), (0, .ref 115), (2, .int x2), (3, .int x3), (5, .int 2187), (6, .int 7)]) kc_58_157 rfl rfl (xm_lt ml_58 rfl) ?_
                  refine xi_iload (pc' := 161) (x := 2187) kc_58_159 rfl rfl ?_
                  refine xi_iconst (pc' := 162) (v := 3) kc_58_161 rfl rfl ?_
                  refine xi_imul (pc' := 163) (v := 6561) kc_58_162 rfl rfl ?_
                  refine xi_istore (pc' := 165) (lv' := [(5, .int 6561), (4, .int v62), (9, .int v62), (8, .int v55), (7, .int v52), (0, .ref 115), (2, .int x2), (3, .int x3), (6, .int 7)]) kc_58_163 rfl rfl (xm_lt ml_58 rfl) ?_
                  refine xi_iinc (pc' := 168) (x := 7) (v := 8) (lv' := [(6, .int 8), (5, .int 6561), (4, .int v62), (9, .int v62), (8, .int v55), (7, .int v52), (0, .ref 115), (2, .int x2), (3, .int x3)]) kc_58_165 rfl rfl rfl rfl (xm_lt ml_58 rfl) ?_
                  refine xi_goto (pc' := 62) kc_58_168 rfl ?_
                  have zc8 : (8 : Int32).toInt = 8 := by decide
                  have zc6561 : (6561 : Int32).toInt = 6561 := by decide
                  refine xw_lv (b := [(0, .ref 115), (2, .int x2), (3, .int x3), (4, .int v62), (5, .int 6561), (6, .int 8)]) (lvS_cons (lvS_cons (lvS_cons (lvS_cons (lvS_cons (lvS_cons (lvS_nil (show ([6, 5, 4, 9, 8, 7, 0, 2, 3] : List Nat).Nodup by decide)) rfl) rfl) rfl) rfl) rfl) rfl) ?_
                  exact i18 x2 x3 v62 hh29 (by omega) (by omega) K31 (by omega)
        · refine xi_ift (pc' := 159) kc_58_77 rfl (xc_ne_t (X := v26.toInt) (Y := 0) rfl (by decide) (by omega)) ?_
          refine xi_iload (pc' := 161) (x := 2187) kc_58_159 rfl rfl ?_
          refine xi_iconst (pc' := 162) (v := 3) kc_58_161 rfl rfl ?_
          refine xi_imul (pc' := 163) (v := 6561) kc_58_162 rfl rfl ?_
          refine xi_istore (pc' := 165) (lv' := [(5, .int 6561), (0, .ref 115), (2, .int x2), (3, .int x3), (4, .int x4), (6, .int 7)]) kc_58_163 rfl rfl (xm_lt ml_58 rfl) ?_
          refine xi_iinc (pc' := 168) (x := 7) (v := 8) (lv' := [(6, .int 8), (5, .int 6561), (0, .ref 115), (2, .int x2), (3, .int x3), (4, .int x4)]) kc_58_165 rfl rfl rfl rfl (xm_lt ml_58 rfl) ?_
          refine xi_goto (pc' := 62) kc_58_168 rfl ?_
          have zc8 : (8 : Int32).toInt = 8 := by decide
          have zc6561 : (6561 : Int32).toInt = 6561 := by decide
          refine xw_lv (b := [(0, .ref 115), (2, .int x2), (3, .int x3), (4, .int x4), (5, .int 6561), (6, .int 8)]) (lvS_cons (lvS_cons (lvS_cons (lvS_cons (lvS_cons (lvS_cons (lvS_nil (show ([6, 5, 0, 2, 3, 4] : List Nat).Nodup by decide)) rfl) rfl) rfl) rfl) rfl) rfl) ?_
          exact i18 x2 x3 x4 h (by omega) (by omega) K (by omega)
    · intro x2 x3 x4 h b2 b3 K hm
      have rx4 := xc_rng x4
      refine xi_iload (pc' := 64) (x := 8) kc_58_62 rfl rfl ?_
      refine xi_aload_n (pc' := 65) (x := 115) kc_58_64 rfl rfl ?_
      refine xp_115 K.1 (fun u1 u2 u3 u4 u5 u6 u7 u8 u9 u10 u11 u12 u13 bu1 bu2 bu3 bu4 bu5 bu6 bu7 bu8 bu9 bu10 bu11 bu12 bu13 A14 => ?_)
      refine xi_getfield (pc' := 68) (v := .int u10) kc_58_65 rfl rfl rfl A14 rfl ?_
      refine xi_cmt (pc' := 171) kc_58_68 rfl (xc_ge_t (X := 8) (Y := u10.toInt) (by decide) rfl (by omega)) ?_
      refine xi_aload_n (pc' := 172) (x := 115) kc_58_171 rfl rfl ?_
      refine xi_getfield (pc' := 175) (v := .ref 155) kc_58_172 rfl rfl rfl A14 rfl ?_
      refine xi_iload_n (pc' := 176) (x := x3) kc_58_175 rfl rfl ?_
      refine xi_iload (pc' := 178) (x := x4) kc_58_176 rfl rfl ?_
      by_cases c15 : 0 ≤ x4.toInt
      · refine xi_ift (pc' := 185) kc_58_178 rfl (xc_ge_t (X := x4.toInt) (Y := 0) rfl (by decide) (by omega)) ?_
        refine xi_iload (pc' := 187) (x := x4) kc_58_185 rfl rfl ?_
        refine xcps4 (xk_arr K.1 xD_155) (fun y16 A16 hy16 ry16 => ?_)
        refine xcps4 (xj_set (v := x4) hy16 ry16 x3 (by first | omega | decide) (by first | omega | decide)) (fun y17 s17 hy17 ry17 => ?_)
        refine xi_iastore (pc' := 188) (x' := y17) kc_58_187 rfl A16 rfl (xi_in (by omega) (by rw [hy16]; omega)) s17 (fun hh17 eh17 => ?_)
        have K18 := xk_pa K (xk_wa rfl) xD_155 hy17 ry17 eh17
        refine xcps2 (α := Int32) (x3 + (-1)) (fun v19 ev19 => ?_)
        have zv19 : v19.toInt = (x3.toInt + (-1)) := by rw [← ev19]; exact (xz_add (X := x3.toInt) (Y := (-1)) rfl (by decide) (by omega) (by omega)).trans (by omega)
        refine xi_iinc (pc' := 191) (x := x3) (v := v19) (lv' := [(3, .int v19), (0, .ref 115), (2, .int x2), (4, .int x4), (5, .int 6561), (6, .int 8)]) kc_58_188 rfl rfl ev19 rfl (xm_lt ml_58 rfl) ?_
        refine xi_goto (pc' := 48) kc_58_191 rfl ?_
        refine xw_lv (b := [(0, .ref 115), (2, .int x2), (3, .int v19)]) (lvS_cons (lvS_cons (lvS_cons (lvS_nil (show ([3, 0, 2, 4, 5, 6] : List Nat).Nodup by decide)) rfl) rfl) rfl) ?_
        exact i9 x2 v19 hh17 (by omega) (by omega) K18 (by omega)
      · refine xi_iff (pc' := 181) kc_58_178 rfl (xc_ge_f (X := x4.toInt) (Y := 0) rfl (by decide) (by omega)) ?_
        refine xi_iconst (pc' := 182) (v := 0) kc_58_181 rfl rfl ?_
        refine xi_goto (pc' := 187) kc_58_182 rfl ?_
        refine xcps4 (xk_arr K.1 xD_155) (fun y20 A20 hy20 ry20 => ?_)
        refine xcps4 (xj_set (v := 0) hy20 ry20 x3 (by first | omega | decide) (by first | omega | decide)) (fun y21 s21 hy21 ry21 => ?_)
        refine xi_iastore (pc' := 188) (x' := y21) kc_58_187 rfl A20 rfl (xi_in (by omega) (by rw [hy20]; omega)) s21 (fun hh21 eh21 => ?_)
        have K22 := xk_pa K (xk_wa rfl) xD_155 hy21 ry21 eh21
        refine xcps2 (α := Int32) (x3 + (-1)) (fun v23 ev23 => ?_)
        have zv23 : v23.toInt = (x3.toInt + (-1)) := by rw [← ev23]; exact (xz_add (X := x3.toInt) (Y := (-1)) rfl (by decide) (by omega) (by omega)).trans (by omega)
        refine xi_iinc (pc' := 191) (x := x3) (v := v23) (lv' := [(3, .int v23), (0, .ref 115), (2, .int x2), (4, .int x4), (5, .int 6561), (6, .int 8)]) kc_58_188 rfl rfl ev23 rfl (xm_lt ml_58 rfl) ?_
        refine xi_goto (pc' := 48) kc_58_191 rfl ?_
        refine xw_lv (b := [(0, .ref 115), (2, .int x2), (3, .int v23)]) (lvS_cons (lvS_cons (lvS_cons (lvS_nil (show ([3, 0, 2, 4, 5, 6] : List Nat).Nodup by decide)) rfl) rfl) rfl) ?_
        exact i9 x2 v23 hh21 (by omega) (by omega) K22 (by omega)
set_option maxHeartbeats 4000000 in
theorem mt_58_0 {J : xe_J} {ov : List (List Int32)} (hJ : ∀ d mj as h, mj ≠ xe_loff → J d mj as h = none) (hov1 : ov[1]? = some [10, 0, 0, 0, 0, 0]) (hov2 : ov[2]? = some [99, 30, 50, 50, 1, 99999]) {d : Nat} {Q : Option Value → xe_H → Prop} {h : xe_H} (T : xt h) (kk : (∀ (r : Int32) (h' : xe_H), xk [(0, 9), (115, 1), (83, 0), (29, 0), (31, 0), (33, 0), (35, 0), (37, 0), (39, 0), (41, 0), (43, 0), (45, 0), (47, 0), (49, 0), (51, 0), (125, 0), (66, 8), (115, 18), (71, 0), (132, 0)] h h' → Q (some (.int r)) h')) : xw J ov (d + 7) 58 (0, [(0, .ref 115)], [], h) Q := by
  have K : xk [(0, 9), (115, 1), (83, 0), (29, 0), (31, 0), (33, 0), (35, 0), (37, 0), (39, 0), (41, 0), (43, 0), (45, 0), (47, 0), (49, 0), (51, 0), (125, 0), (66, 8), (115, 18), (71, 0), (132, 0)] h h := xk_re T
  refine xi_aload_n (pc' := 1) (x := 115) kc_58_0 rfl rfl ?_
  refine xi_iconst (pc' := 2) (v := 0) kc_58_1 rfl rfl ?_
  refine xp_115 K.1 (fun u1 u2 u3 u4 u5 u6 u7 u8 u9 u10 u11 u12 u13 bu1 bu2 bu3 bu4 bu5 bu6 bu7 bu8 bu9 bu10 bu11 bu12 bu13 A14 => ?_)
  refine xi_putfield (pc' := 5) (fs' := [.int 0, .int u2, .ref 116, .ref 117, .ref 118, .ref 119, .ref 120, .ref 121, .ref 122, .ref 123, .ref 124, .ref 125, .ref 126, .ref 127, .ref 128, .ref 129, .int u3, .ref 130, .int u4, .ref 131, .ref 132, .ref 133, .ref 134, .int u5, .ref 135, .ref 136, .ref 137, .ref 138, .ref 139, .ref 140, .ref 141, .ref 142, .int u6, .int u7, .int u8, .ref 143, .ref 144, .ref 145, .ref 146, .ref 147, .ref 148, .int u9, .ref 149, .ref 150, .ref 151, .int u10, .ref 152, .ref 153, .ref 154, .ref 155, .ref 156, .ref 157, .ref 158, .ref 159, .int u11, .ref 160, .int u12, .ref 161, .ref 162, .ref 163, .ref 164, .int u13, .ref 165, .ref 166]) kc_58_2 rfl rfl rfl A14 rfl rfl rfl (Nat.le_of_ble_eq_true rfl) rfl (fun hh16 eh15 => ?_)
  have K17 := xk_pf (k := 0) (v := 0) K (xk_wf rfl) xD_115 A14 rfl (by first | omega | decide) (by first | omega | decide) eh15 rfl
  refine xi_aload_n (pc' := 6) (x := 115) kc_58_5 rfl rfl ?_
  refine xi_virtual (mj := 43) (as := []) (st1 := []) (lv0 := [(0, .ref 115)]) kc_58_6 rfl rfl rfl rfl rfl eh15.1 (Nat.le_of_ble_eq_true rfl) (hJ _ _ _ _ (by decide)) (xm_le ml_43 rfl) rfl ?_
  refine mt_43_0 hJ hov1 hov2 (d := d)  K17.1 (fun hh19 K20 => ?_)
  have K21 := xk_tr K17 K20 rfl
  refine xp_115 K21.1 (fun u22 u23 u24 u25 u26 u27 u28 u29 u30 u31 u32 u33 u34 bu22 bu23 bu24 bu25 bu26 bu27 bu28 bu29 bu30 bu31 bu32 bu33 bu34 A35 => ?_)
  have e36 : u2 = u23 := xk_eqi (q := 1) K20 rfl eh15.1 A35 rfl rfl
  subst e36
  have e37 : u4 = u25 := xk_eqi (q := 18) K20 rfl eh15.1 A35 rfl rfl
  subst e37
  show xw J ov (d + 7) 58 (9, [(0, .ref 115)], [], hh19) _
  refine xi_iconst (pc' := 10) (v := 1) kc_58_9 rfl rfl ?_
  refine xi_istore_n (pc' := 11) (lv' := [(1, .int 1), (0, .ref 115)]) kc_58_10 rfl rfl (xm_lt ml_58 rfl) ?_
  refine xi_iconst (pc' := 12) (v := 0) kc_58_11 rfl rfl ?_
  refine xi_istore_n (pc' := 13) (lv' := [(2, .int 0), (1, .int 1), (0, .ref 115)]) kc_58_12 rfl rfl (xm_lt ml_58 rfl) ?_
  refine xi_iconst (pc' := 14) (v := 0) kc_58_13 rfl rfl ?_
  refine xi_istore_n (pc' := 15) (lv' := [(3, .int 0), (2, .int 0), (1, .int 1), (0, .ref 115)]) kc_58_14 rfl rfl (xm_lt ml_58 rfl) ?_
  have zc0 : (0 : Int32).toInt = 0 := by decide
  have zc1 : (1 : Int32).toInt = 1 := by decide
  refine xw_lv (b := [(0, .ref 115), (1, .int 1), (2, .int 0), (3, .int 0)]) (lvS_cons (lvS_cons (lvS_cons (lvS_cons (lvS_nil (show ([3, 2, 1, 0] : List Nat).Nodup by decide)) rfl) rfl) rfl) rfl) ?_
  exact (lp_58_0 hJ hov1 hov2 (d := d) (hb := hh19) (fun r9 h9 K9 => kk r9 h9 (xk_tr K21 K9 rfl)) 65629).1 0 hh19 (by omega) (xk_re K21.1) (by omega)
