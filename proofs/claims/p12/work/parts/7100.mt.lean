set_option maxHeartbeats 4000000 in
theorem mt_100_0 {J : xe_J} {ov : List (List Int32)} (hJ : ∀ d mj as h, mj ≠ xe_loff → J d mj as h = none) (hov1 : ov[1]? = some [10, 0, 0, 0, 0, 0]) (hov2 : ov[2]? = some [99, 30, 50, 50, 1, 99999]) {d : Nat} {Q : Option Value → xe_H → Prop} {h : xe_H} {x1 : Int32} {x2 : Int32} (T : xt h) (kk : (∀ (r : Int32) (h' : xe_H), xk [(0, 9), (115, 1), (83, 0), (29, 0), (31, 0), (33, 0), (35, 0), (37, 0), (39, 0), (41, 0), (43, 0), (45, 0), (47, 0), (49, 0), (51, 0), (125, 0), (66, 8), (115, 18), (71, 0), (132, 0)] h h' → Q (some (.int r)) h')) : xw J ov (d + 2) 100 (0, [(0, .ref 0), (1, .int x1), (2, .int x2)], [], h) Q := by
  have K : xk [(0, 9), (115, 1), (83, 0), (29, 0), (31, 0), (33, 0), (35, 0), (37, 0), (39, 0), (41, 0), (43, 0), (45, 0), (47, 0), (49, 0), (51, 0), (125, 0), (66, 8), (115, 18), (71, 0), (132, 0)] h h := xk_re T
  have rx1 := xc_rng x1
  have rx2 := xc_rng x2
  refine xi_iload_n (pc' := 1) (x := x2) kc_100_0 rfl rfl ?_
  by_cases c1 : x2.toInt = 0
  · refine xi_ift (pc' := 16) kc_100_1 rfl (xc_eq_t (X := x2.toInt) (Y := 0) rfl (by decide) (by omega)) ?_
    refine xi_iload_n (pc' := 17) (x := x1) kc_100_16 rfl rfl ?_
    by_cases c2 : 0 ≤ x1.toInt
    · refine xi_ift (pc' := 27) kc_100_17 rfl (xc_ge_t (X := x1.toInt) (Y := 0) rfl (by decide) (by omega)) ?_
      refine xi_iload_n (pc' := 28) (x := x1) kc_100_27 rfl rfl ?_
      refine xi_sipush (pc' := 31) (v := 600) kc_100_28 rfl rfl ?_
      by_cases c3 : x1.toInt < 600
      · refine xi_cmt (pc' := 41) kc_100_31 rfl (xc_lt_t (X := x1.toInt) (Y := 600) rfl (by decide) (by omega)) ?_
        refine xi_aload_n (pc' := 42) (x := 0) kc_100_41 rfl rfl ?_
        refine xp_0 K.1 (fun u4 u5 bu4 bu5 A6 => ?_)
        refine xi_getfield (pc' := 45) (v := .ref 1) kc_100_42 rfl rfl rfl A6 rfl ?_
        refine xi_iload_n (pc' := 46) (x := x2) kc_100_45 rfl rfl ?_
        refine xp_1 K.1 (fun u7 u8 bu7 bu8 A9 => ?_)
        refine xi_virtual (mj := 97) (as := [.int x2]) (st1 := []) (lv0 := [(0, .ref 1), (1, .int x2)]) kc_100_46 rfl rfl rfl rfl rfl A9 (Nat.le_of_ble_eq_true rfl) (hJ _ _ _ _ (by decide)) (xm_le ml_97 rfl) rfl ?_
        refine xi_iload_n (pc' := 1) (x := x2) kc_97_0 rfl rfl ?_
        refine xi_iff (pc' := 4) kc_97_1 rfl (xc_ne_f (X := x2.toInt) (Y := 0) rfl (by decide) (by omega)) ?_
        refine xi_aload_n (pc' := 5) (x := 1) kc_97_4 rfl rfl ?_
        refine xi_getfield (pc' := 8) (v := .ref 5) kc_97_5 rfl rfl rfl A9 rfl ?_
        refine xi_goto (pc' := 15) kc_97_8 rfl ?_
        refine xi_areturn kc_97_15 (by rw [mr_97]; rfl) ?_
        show xw J ov (d + 2) 100 (49, [(0, .ref 0), (1, .int x1), (2, .int x2)], [.ref 5], h) _
        refine xi_iload_n (pc' := 50) (x := x1) kc_100_49 rfl rfl ?_
        refine xp_5 K.1 (fun u10 bu10 A11 => ?_)
        refine xi_virtual (mj := 99) (as := [.int x1]) (st1 := []) (lv0 := [(0, .ref 5), (1, .int x1)]) kc_100_50 rfl rfl rfl rfl rfl A11 (Nat.le_of_ble_eq_true rfl) (hJ _ _ _ _ (by decide)) (xm_le ml_99 rfl) rfl ?_
        refine xi_iload_n (pc' := 1) (x := x1) kc_99_0 rfl rfl ?_
        refine xi_iff (pc' := 4) kc_99_1 rfl (xc_lt_f (X := x1.toInt) (Y := 0) rfl (by decide) (by omega)) ?_
        refine xi_iload_n (pc' := 5) (x := x1) kc_99_4 rfl rfl ?_
        refine xi_aload_n (pc' := 6) (x := 5) kc_99_5 rfl rfl ?_
        refine xi_getfield (pc' := 9) (v := .ref 7) kc_99_6 rfl rfl rfl A11 rfl ?_
        refine xcps4 (xk_arr K.1 xD_7) (fun y12 A12 hy12 ry12 => ?_)
        refine xi_arraylength (pc' := 10) (n := 601) (v := 601) kc_99_9 rfl (xl_lenI (by decide) (by decide) A12 hy12) rfl ?_
        refine xi_cmt (pc' := 20) kc_99_10 rfl (xc_lt_t (X := x1.toInt) (Y := 601) rfl (by decide) (by omega)) ?_
        refine xi_aload_n (pc' := 21) (x := 5) kc_99_20 rfl rfl ?_
        refine xi_getfield (pc' := 24) (v := .ref 7) kc_99_21 rfl rfl rfl A11 rfl ?_
        refine xi_iload_n (pc' := 25) (x := x1) kc_99_24 rfl rfl ?_
        refine xcps4 (xj_get hy12 ry12 (i := x1) (by omega) (by omega)) (fun v13 ev13 bv13 dv13 => ?_)
        refine xi_iaload (pc' := 26) (v := v13) kc_99_25 rfl A12 (by decide) rfl (xi_in (by omega) (by rw [hy12]; omega)) ev13 ?_
        refine xi_ireturn kc_99_26 mr_99 rfl ?_
        show xw J ov (d + 2) 100 (53, [(0, .ref 0), (1, .int x1), (2, .int x2)], [.int v13], h) _
        refine xi_ireturn kc_100_53 mr_100 rfl ?_
        exact kk v13 h K
      · refine xi_cmf (pc' := 34) kc_100_31 rfl (xc_lt_f (X := x1.toInt) (Y := 600) rfl (by decide) (by omega)) ?_
        refine xi_aload_n (pc' := 35) (x := 0) kc_100_34 rfl rfl ?_
        refine xi_bipush (pc' := 37) (v := (-6)) kc_100_35 rfl rfl ?_
        refine xp_0 K.1 (fun u14 u15 bu14 bu15 A16 => ?_)
        refine xi_virtual (mj := 96) (as := [.int (-6)]) (st1 := []) (lv0 := [(0, .ref 0), (1, .int (-6))]) kc_100_37 rfl rfl rfl rfl rfl A16 (Nat.le_of_ble_eq_true rfl) (hJ _ _ _ _ (by decide)) (xm_le ml_96 rfl) rfl ?_
        refine xi_ldc_w (pc' := 3) (v := 1000000000) kc_96_0 rfl rfl ?_
        refine xi_aload_n (pc' := 4) (x := 0) kc_96_3 rfl rfl ?_
        refine xi_iload_n (pc' := 5) (x := (-6)) kc_96_4 rfl rfl ?_
        refine xi_virtual (mj := 90) (as := [.int (-6)]) (st1 := [.int 1000000000]) (lv0 := [(0, .ref 0), (1, .int (-6))]) kc_96_5 rfl rfl rfl rfl rfl A16 (Nat.le_of_ble_eq_true rfl) (hJ _ _ _ _ (by decide)) (xm_le ml_90 rfl) rfl ?_
        refine xi_iload_n (pc' := 1) (x := (-6)) kc_90_0 rfl rfl ?_
        refine xi_ineg (pc' := 2) (v := 6) kc_90_1 rfl rfl ?_
        refine xi_istore_n (pc' := 3) (lv' := [(2, .int 6), (0, .ref 0), (1, .int (-6))]) kc_90_2 rfl rfl (xm_lt ml_90 rfl) ?_
        refine xi_iload_n (pc' := 4) (x := 6) kc_90_3 rfl rfl ?_
        refine xi_iff (pc' := 7) kc_90_4 rfl rfl ?_
        refine xi_iload_n (pc' := 8) (x := 6) kc_90_7 rfl rfl ?_
        refine xi_aload_n (pc' := 9) (x := 0) kc_90_8 rfl rfl ?_
        refine xi_getfield (pc' := 12) (v := .ref 94) kc_90_9 rfl rfl rfl A16 rfl ?_
        refine xcps4 (xk_arr K.1 xD_94) (fun y17 A17 hy17 ry17 => ?_)
        refine xi_arraylength (pc' := 13) (n := 7) (v := 7) kc_90_12 rfl (xl_lenI (by decide) (by decide) A17 hy17) rfl ?_
        refine xi_cmf (pc' := 16) kc_90_13 rfl rfl ?_
        refine xi_aload_n (pc' := 17) (x := 0) kc_90_16 rfl rfl ?_
        refine xi_getfield (pc' := 20) (v := .ref 94) kc_90_17 rfl rfl rfl A16 rfl ?_
        refine xi_iload_n (pc' := 21) (x := 6) kc_90_20 rfl rfl ?_
        refine xi_dup2 (pc' := 22) kc_90_21 rfl ⟨rfl, rfl⟩ ?_
        refine xcps4 (xj_get hy17 ry17 (i := 6) (by decide) (by decide)) (fun v18 ev18 bv18 dv18 => ?_)
        refine xi_iaload (pc' := 23) (v := v18) kc_90_22 rfl A17 (by decide) rfl (xi_in (by decide) (by rw [hy17]; decide)) ev18 ?_
        refine xi_iconst (pc' := 24) (v := 1) kc_90_23 rfl rfl ?_
        refine xcps2 (α := Int32) ((v18 : Int32) + 1) (fun v19 ev19 => ?_)
        have rv19 := xc_rng v19
        refine xi_iadd (pc' := 25) (v := v19) kc_90_24 rfl ev19 ?_
        refine xcps4 (xj_set (v := v19) hy17 ry17 6 (by first | omega | decide) (by first | omega | decide)) (fun y20 s20 hy20 ry20 => ?_)
        refine xi_iastore (pc' := 26) (x' := y20) kc_90_25 rfl A17 rfl (xi_in (by decide) (by rw [hy17]; decide)) s20 (fun hh20 eh20 => ?_)
        have K21 := xk_pa K (xk_wa rfl) xD_94 hy20 ry20 eh20
        refine xi_iload_n (pc' := 27) (x := (-6)) kc_90_26 rfl rfl ?_
        refine xi_ireturn kc_90_27 mr_90 rfl ?_
        show xw J ov (d + 1) 96 (8, [(0, .ref 0), (1, .int (-6))], [.int (-6), .int 1000000000], hh20) _
        refine xi_isub (pc' := 9) (v := 1000000006) kc_96_8 rfl rfl ?_
        refine xi_ireturn kc_96_9 mr_96 rfl ?_
        show xw J ov (d + 2) 100 (40, [(0, .ref 0), (1, .int x1), (2, .int x2)], [.int 1000000006], hh20) _
        refine xi_ireturn kc_100_40 mr_100 rfl ?_
        have zc1000000006 : (1000000006 : Int32).toInt = 1000000006 := by decide
        exact kk 1000000006 hh20 K21
    · refine xi_iff (pc' := 20) kc_100_17 rfl (xc_ge_f (X := x1.toInt) (Y := 0) rfl (by decide) (by omega)) ?_
      refine xi_aload_n (pc' := 21) (x := 0) kc_100_20 rfl rfl ?_
      refine xi_bipush (pc' := 23) (v := (-4)) kc_100_21 rfl rfl ?_
      refine xp_0 K.1 (fun u22 u23 bu22 bu23 A24 => ?_)
      refine xi_virtual (mj := 96) (as := [.int (-4)]) (st1 := []) (lv0 := [(0, .ref 0), (1, .int (-4))]) kc_100_23 rfl rfl rfl rfl rfl A24 (Nat.le_of_ble_eq_true rfl) (hJ _ _ _ _ (by decide)) (xm_le ml_96 rfl) rfl ?_
      refine xi_ldc_w (pc' := 3) (v := 1000000000) kc_96_0 rfl rfl ?_
      refine xi_aload_n (pc' := 4) (x := 0) kc_96_3 rfl rfl ?_
      refine xi_iload_n (pc' := 5) (x := (-4)) kc_96_4 rfl rfl ?_
      refine xi_virtual (mj := 90) (as := [.int (-4)]) (st1 := [.int 1000000000]) (lv0 := [(0, .ref 0), (1, .int (-4))]) kc_96_5 rfl rfl rfl rfl rfl A24 (Nat.le_of_ble_eq_true rfl) (hJ _ _ _ _ (by decide)) (xm_le ml_90 rfl) rfl ?_
      refine xi_iload_n (pc' := 1) (x := (-4)) kc_90_0 rfl rfl ?_
      refine xi_ineg (pc' := 2) (v := 4) kc_90_1 rfl rfl ?_
      refine xi_istore_n (pc' := 3) (lv' := [(2, .int 4), (0, .ref 0), (1, .int (-4))]) kc_90_2 rfl rfl (xm_lt ml_90 rfl) ?_
      refine xi_iload_n (pc' := 4) (x := 4) kc_90_3 rfl rfl ?_
      refine xi_iff (pc' := 7) kc_90_4 rfl rfl ?_
      refine xi_iload_n (pc' := 8) (x := 4) kc_90_7 rfl rfl ?_
      refine xi_aload_n (pc' := 9) (x := 0) kc_90_8 rfl rfl ?_
      refine xi_getfield (pc' := 12) (v := .ref 94) kc_90_9 rfl rfl rfl A24 rfl ?_
      refine xcps4 (xk_arr K.1 xD_94) (fun y25 A25 hy25 ry25 => ?_)
      refine xi_arraylength (pc' := 13) (n := 7) (v := 7) kc_90_12 rfl (xl_lenI (by decide) (by decide) A25 hy25) rfl ?_
      refine xi_cmf (pc' := 16) kc_90_13 rfl rfl ?_
      refine xi_aload_n (pc' := 17) (x := 0) kc_90_16 rfl rfl ?_
      refine xi_getfield (pc' := 20) (v := .ref 94) kc_90_17 rfl rfl rfl A24 rfl ?_
      refine xi_iload_n (pc' := 21) (x := 4) kc_90_20 rfl rfl ?_
      refine xi_dup2 (pc' := 22) kc_90_21 rfl ⟨rfl, rfl⟩ ?_
      refine xcps4 (xj_get hy25 ry25 (i := 4) (by decide) (by decide)) (fun v26 ev26 bv26 dv26 => ?_)
      refine xi_iaload (pc' := 23) (v := v26) kc_90_22 rfl A25 (by decide) rfl (xi_in (by decide) (by rw [hy25]; decide)) ev26 ?_
      refine xi_iconst (pc' := 24) (v := 1) kc_90_23 rfl rfl ?_
      refine xcps2 (α := Int32) ((v26 : Int32) + 1) (fun v27 ev27 => ?_)
      have rv27 := xc_rng v27
      refine xi_iadd (pc' := 25) (v := v27) kc_90_24 rfl ev27 ?_
      refine xcps4 (xj_set (v := v27) hy25 ry25 4 (by first | omega | decide) (by first | omega | decide)) (fun y28 s28 hy28 ry28 => ?_)
      refine xi_iastore (pc' := 26) (x' := y28) kc_90_25 rfl A25 rfl (xi_in (by decide) (by rw [hy25]; decide)) s28 (fun hh28 eh28 => ?_)
      have K29 := xk_pa K (xk_wa rfl) xD_94 hy28 ry28 eh28
      refine xi_iload_n (pc' := 27) (x := (-4)) kc_90_26 rfl rfl ?_
      refine xi_ireturn kc_90_27 mr_90 rfl ?_
      show xw J ov (d + 1) 96 (8, [(0, .ref 0), (1, .int (-4))], [.int (-4), .int 1000000000], hh28) _
      refine xi_isub (pc' := 9) (v := 1000000004) kc_96_8 rfl rfl ?_
      refine xi_ireturn kc_96_9 mr_96 rfl ?_
      show xw J ov (d + 2) 100 (26, [(0, .ref 0), (1, .int x1), (2, .int x2)], [.int 1000000004], hh28) _
      refine xi_ireturn kc_100_26 mr_100 rfl ?_
      have zc1000000004 : (1000000004 : Int32).toInt = 1000000004 := by decide
      exact kk 1000000004 hh28 K29
  · refine xi_iff (pc' := 4) kc_100_1 rfl (xc_eq_f (X := x2.toInt) (Y := 0) rfl (by decide) (by omega)) ?_
    refine xi_iload_n (pc' := 5) (x := x2) kc_100_4 rfl rfl ?_
    refine xi_iconst (pc' := 6) (v := 1) kc_100_5 rfl rfl ?_
    by_cases c30 : x2.toInt = 1
    · refine xi_cmt (pc' := 16) kc_100_6 rfl (xc_eq_t (X := x2.toInt) (Y := 1) rfl (by decide) (by omega)) ?_
      refine xi_iload_n (pc' := 17) (x := x1) kc_100_16 rfl rfl ?_
      by_cases c31 : 0 ≤ x1.toInt
      · refine xi_ift (pc' := 27) kc_100_17 rfl (xc_ge_t (X := x1.toInt) (Y := 0) rfl (by decide) (by omega)) ?_
        refine xi_iload_n (pc' := 28) (x := x1) kc_100_27 rfl rfl ?_
        refine xi_sipush (pc' := 31) (v := 600) kc_100_28 rfl rfl ?_
        by_cases c32 : x1.toInt < 600
        · refine xi_cmt (pc' := 41) kc_100_31 rfl (xc_lt_t (X := x1.toInt) (Y := 600) rfl (by decide) (by omega)) ?_
          refine xi_aload_n (pc' := 42) (x := 0) kc_100_41 rfl rfl ?_
          refine xp_0 K.1 (fun u33 u34 bu33 bu34 A35 => ?_)
          refine xi_getfield (pc' := 45) (v := .ref 1) kc_100_42 rfl rfl rfl A35 rfl ?_
          refine xi_iload_n (pc' := 46) (x := x2) kc_100_45 rfl rfl ?_
          refine xp_1 K.1 (fun u36 u37 bu36 bu37 A38 => ?_)
          refine xi_virtual (mj := 97) (as := [.int x2]) (st1 := []) (lv0 := [(0, .ref 1), (1, .int x2)]) kc_100_46 rfl rfl rfl rfl rfl A38 (Nat.le_of_ble_eq_true rfl) (hJ _ _ _ _ (by decide)) (xm_le ml_97 rfl) rfl ?_
          refine xi_iload_n (pc' := 1) (x := x2) kc_97_0 rfl rfl ?_
          refine xi_ift (pc' := 11) kc_97_1 rfl (xc_ne_t (X := x2.toInt) (Y := 0) rfl (by decide) (by omega)) ?_
          refine xi_aload_n (pc' := 12) (x := 1) kc_97_11 rfl rfl ?_
          refine xi_getfield (pc' := 15) (v := .ref 8) kc_97_12 rfl rfl rfl A38 rfl ?_
          refine xi_areturn kc_97_15 (by rw [mr_97]; rfl) ?_
          show xw J ov (d + 2) 100 (49, [(0, .ref 0), (1, .int x1), (2, .int x2)], [.ref 8], h) _
          refine xi_iload_n (pc' := 50) (x := x1) kc_100_49 rfl rfl ?_
          refine xp_8 K.1 (fun u39 bu39 A40 => ?_)
          refine xi_virtual (mj := 99) (as := [.int x1]) (st1 := []) (lv0 := [(0, .ref 8), (1, .int x1)]) kc_100_50 rfl rfl rfl rfl rfl A40 (Nat.le_of_ble_eq_true rfl) (hJ _ _ _ _ (by decide)) (xm_le ml_99 rfl) rfl ?_
          refine xi_iload_n (pc' := 1) (x := x1) kc_99_0 rfl rfl ?_
          refine xi_iff (pc' := 4) kc_99_1 rfl (xc_lt_f (X := x1.toInt) (Y := 0) rfl (by decide) (by omega)) ?_
          refine xi_iload_n (pc' := 5) (x := x1) kc_99_4 rfl rfl ?_
          refine xi_aload_n (pc' := 6) (x := 8) kc_99_5 rfl rfl ?_
          refine xi_getfield (pc' := 9) (v := .ref 10) kc_99_6 rfl rfl rfl A40 rfl ?_
          refine xcps4 (xk_arr K.1 xD_10) (fun y41 A41 hy41 ry41 => ?_)
          refine xi_arraylength (pc' := 10) (n := 601) (v := 601) kc_99_9 rfl (xl_lenI (by decide) (by decide) A41 hy41) rfl ?_
          refine xi_cmt (pc' := 20) kc_99_10 rfl (xc_lt_t (X := x1.toInt) (Y := 601) rfl (by decide) (by omega)) ?_
          refine xi_aload_n (pc' := 21) (x := 8) kc_99_20 rfl rfl ?_
          refine xi_getfield (pc' := 24) (v := .ref 10) kc_99_21 rfl rfl rfl A40 rfl ?_
          refine xi_iload_n (pc' := 25) (x := x1) kc_99_24 rfl rfl ?_
          refine xcps4 (xj_get hy41 ry41 (i := x1) (by omega) (by omega)) (fun v42 ev42 bv42 dv42 => ?_)
          refine xi_iaload (pc' := 26) (v := v42) kc_99_25 rfl A41 (by decide) rfl (xi_in (by omega) (by rw [hy41]; omega)) ev42 ?_
          refine xi_ireturn kc_99_26 mr_99 rfl ?_
          show xw J ov (d + 2) 100 (53, [(0, .ref 0), (1, .int x1), (2, .int x2)], [.int v42], h) _
          refine xi_ireturn kc_100_53 mr_100 rfl ?_
          exact kk v42 h K
        · refine xi_cmf (pc' := 34) kc_100_31 rfl (xc_lt_f (X := x1.toInt) (Y := 600) rfl (by decide) (by omega)) ?_
          refine xi_aload_n (pc' := 35) (x := 0) kc_100_34 rfl rfl ?_
          refine xi_bipush (pc' := 37) (v := (-6)) kc_100_35 rfl rfl ?_
          refine xp_0 K.1 (fun u43 u44 bu43 bu44 A45 => ?_)
          refine xi_virtual (mj := 96) (as := [.int (-6)]) (st1 := []) (lv0 := [(0, .ref 0), (1, .int (-6))]) kc_100_37 rfl rfl rfl rfl rfl A45 (Nat.le_of_ble_eq_true rfl) (hJ _ _ _ _ (by decide)) (xm_le ml_96 rfl) rfl ?_
          refine xi_ldc_w (pc' := 3) (v := 1000000000) kc_96_0 rfl rfl ?_
          refine xi_aload_n (pc' := 4) (x := 0) kc_96_3 rfl rfl ?_
          refine xi_iload_n (pc' := 5) (x := (-6)) kc_96_4 rfl rfl ?_
          refine xi_virtual (mj := 90) (as := [.int (-6)]) (st1 := [.int 1000000000]) (lv0 := [(0, .ref 0), (1, .int (-6))]) kc_96_5 rfl rfl rfl rfl rfl A45 (Nat.le_of_ble_eq_true rfl) (hJ _ _ _ _ (by decide)) (xm_le ml_90 rfl) rfl ?_
          refine xi_iload_n (pc' := 1) (x := (-6)) kc_90_0 rfl rfl ?_
          refine xi_ineg (pc' := 2) (v := 6) kc_90_1 rfl rfl ?_
          refine xi_istore_n (pc' := 3) (lv' := [(2, .int 6), (0, .ref 0), (1, .int (-6))]) kc_90_2 rfl rfl (xm_lt ml_90 rfl) ?_
          refine xi_iload_n (pc' := 4) (x := 6) kc_90_3 rfl rfl ?_
          refine xi_iff (pc' := 7) kc_90_4 rfl rfl ?_
          refine xi_iload_n (pc' := 8) (x := 6) kc_90_7 rfl rfl ?_
          refine xi_aload_n (pc' := 9) (x := 0) kc_90_8 rfl rfl ?_
          refine xi_getfield (pc' := 12) (v := .ref 94) kc_90_9 rfl rfl rfl A45 rfl ?_
          refine xcps4 (xk_arr K.1 xD_94) (fun y46 A46 hy46 ry46 => ?_)
          refine xi_arraylength (pc' := 13) (n := 7) (v := 7) kc_90_12 rfl (xl_lenI (by decide) (by decide) A46 hy46) rfl ?_
          refine xi_cmf (pc' := 16) kc_90_13 rfl rfl ?_
          refine xi_aload_n (pc' := 17) (x := 0) kc_90_16 rfl rfl ?_
          refine xi_getfield (pc' := 20) (v := .ref 94) kc_90_17 rfl rfl rfl A45 rfl ?_
          refine xi_iload_n (pc' := 21) (x := 6) kc_90_20 rfl rfl ?_
          refine xi_dup2 (pc' := 22) kc_90_21 rfl ⟨rfl, rfl⟩ ?_
          refine xcps4 (xj_get hy46 ry46 (i := 6) (by decide) (by decide)) (fun v47 ev47 bv47 dv47 => ?_)
          refine xi_iaload (pc' := 23) (v := v47) kc_90_22 rfl A46 (by decide) rfl (xi_in (by decide) (by rw [hy46]; decide)) ev47 ?_
          refine xi_iconst (pc' := 24) (v := 1) kc_90_23 rfl rfl ?_
          refine xcps2 (α := Int32) ((v47 : Int32) + 1) (fun v48 ev48 => ?_)
          have rv48 := xc_rng v48
          refine xi_iadd (pc' := 25) (v := v48) kc_90_24 rfl ev48 ?_
          refine xcps4 (xj_set (v := v48) hy46 ry46 6 (by first | omega | decide) (by first | omega | decide)) (fun y49 s49 hy49 ry49 => ?_)
          refine xi_iastore (pc' := 26) (x' := y49) kc_90_25 rfl A46 rfl (xi_in (by decide) (by rw [hy46]; decide)) s49 (fun hh49 eh49 => ?_)
          have K50 := xk_pa K (xk_wa rfl) xD_94 hy49 ry49 eh49
          refine xi_iload_n (pc' := 27) (x := (-6)) kc_90_26 rfl rfl ?_
          refine xi_ireturn kc_90_27 mr_90 rfl ?_
          show xw J ov (d + 1) 96 (8, [(0, .ref 0), (1, .int (-6))], [.int (-6), .int 1000000000], hh49) _
          refine xi_isub (pc' := 9) (v := 1000000006) kc_96_8 rfl rfl ?_
          refine xi_ireturn kc_96_9 mr_96 rfl ?_
          show xw J ov (d + 2) 100 (40, [(0, .ref 0), (1, .int x1), (2, .int x2)], [.int 1000000006], hh49) _
          refine xi_ireturn kc_100_40 mr_100 rfl ?_
          have zc1000000006 : (1000000006 : Int32).toInt = 1000000006 := by decide
          exact kk 1000000006 hh49 K50
      · refine xi_iff (pc' := 20) kc_100_17 rfl (xc_ge_f (X := x1.toInt) (Y := 0) rfl (by decide) (by omega)) ?_
        refine xi_aload_n (pc' := 21) (x := 0) kc_100_20 rfl rfl ?_
        refine xi_bipush (pc' := 23) (v := (-4)) kc_100_21 rfl rfl ?_
        refine xp_0 K.1 (fun u51 u52 bu51 bu52 A53 => ?_)
        refine xi_virtual (mj := 96) (as := [.int (-4)]) (st1 := []) (lv0 := [(0, .ref 0), (1, .int (-4))]) kc_100_23 rfl rfl rfl rfl rfl A53 (Nat.le_of_ble_eq_true rfl) (hJ _ _ _ _ (by decide)) (xm_le ml_96 rfl) rfl ?_
        refine xi_ldc_w (pc' := 3) (v := 1000000000) kc_96_0 rfl rfl ?_
        refine xi_aload_n (pc' := 4) (x := 0) kc_96_3 rfl rfl ?_
        refine xi_iload_n (pc' := 5) (x := (-4)) kc_96_4 rfl rfl ?_
        refine xi_virtual (mj := 90) (as := [.int (-4)]) (st1 := [.int 1000000000]) (lv0 := [(0, .ref 0), (1, .int (-4))]) kc_96_5 rfl rfl rfl rfl rfl A53 (Nat.le_of_ble_eq_true rfl) (hJ _ _ _ _ (by decide)) (xm_le ml_90 rfl) rfl ?_
        refine xi_iload_n (pc' := 1) (x := (-4)) kc_90_0 rfl rfl ?_
        refine xi_ineg (pc' := 2) (v := 4) kc_90_1 rfl rfl ?_
        refine xi_istore_n (pc' := 3) (lv' := [(2, .int 4), (0, .ref 0), (1, .int (-4))]) kc_90_2 rfl rfl (xm_lt ml_90 rfl) ?_
        refine xi_iload_n (pc' := 4) (x := 4) kc_90_3 rfl rfl ?_
        refine xi_iff (pc' := 7) kc_90_4 rfl rfl ?_
        refine xi_iload_n (pc' := 8) (x := 4) kc_90_7 rfl rfl ?_
        refine xi_aload_n (pc' := 9) (x := 0) kc_90_8 rfl rfl ?_
        refine xi_getfield (pc' := 12) (v := .ref 94) kc_90_9 rfl rfl rfl A53 rfl ?_
        refine xcps4 (xk_arr K.1 xD_94) (fun y54 A54 hy54 ry54 => ?_)
        refine xi_arraylength (pc' := 13) (n := 7) (v := 7) kc_90_12 rfl (xl_lenI (by decide) (by decide) A54 hy54) rfl ?_
        refine xi_cmf (pc' := 16) kc_90_13 rfl rfl ?_
        refine xi_aload_n (pc' := 17) (x := 0) kc_90_16 rfl rfl ?_
        refine xi_getfield (pc' := 20) (v := .ref 94) kc_90_17 rfl rfl rfl A53 rfl ?_
        refine xi_iload_n (pc' := 21) (x := 4) kc_90_20 rfl rfl ?_
        refine xi_dup2 (pc' := 22) kc_90_21 rfl ⟨rfl, rfl⟩ ?_
        refine xcps4 (xj_get hy54 ry54 (i := 4) (by decide) (by decide)) (fun v55 ev55 bv55 dv55 => ?_)
        refine xi_iaload (pc' := 23) (v := v55) kc_90_22 rfl A54 (by decide) rfl (xi_in (by decide) (by rw [hy54]; decide)) ev55 ?_
        refine xi_iconst (pc' := 24) (v := 1) kc_90_23 rfl rfl ?_
        refine xcps2 (α := Int32) ((v55 : Int32) + 1) (fun v56 ev56 => ?_)
        have rv56 := xc_rng v56
        refine xi_iadd (pc' := 25) (v := v56) kc_90_24 rfl ev56 ?_
        refine xcps4 (xj_set (v := v56) hy54 ry54 4 (by first | omega | decide) (by first | omega | decide)) (fun y57 s57 hy57 ry57 => ?_)
        refine xi_iastore (pc' := 26) (x' := y57) kc_90_25 rfl A54 rfl (xi_in (by decide) (by rw [hy54]; decide)) s57 (fun hh57 eh57 => ?_)
        have K58 := xk_pa K (xk_wa rfl) xD_94 hy57 ry57 eh57
        refine xi_iload_n (pc' := 27) (x := (-4)) kc_90_26 rfl rfl ?_
        refine xi_ireturn kc_90_27 mr_90 rfl ?_
        show xw J ov (d + 1) 96 (8, [(0, .ref 0), (1, .int (-4))], [.int (-4), .int 1000000000], hh57) _
        refine xi_isub (pc' := 9) (v := 1000000004) kc_96_8 rfl rfl ?_
        refine xi_ireturn kc_96_9 mr_96 rfl ?_
        show xw J ov (d + 2) 100 (26, [(0, .ref 0), (1, .int x1), (2, .int x2)], [.int 1000000004], hh57) _
        refine xi_ireturn kc_100_26 mr_100 rfl ?_
        have zc1000000004 : (1000000004 : Int32).toInt = 1000000004 := by decide
        exact kk 1000000004 hh57 K58
    · refine xi_cmf (pc' := 9) kc_100_6 rfl (xc_eq_f (X := x2.toInt) (Y := 1) rfl (by decide) (by omega)) ?_
      refine xi_aload_n (pc' := 10) (x := 0) kc_100_9 rfl rfl ?_
      refine xi_bipush (pc' := 12) (v := (-2)) kc_100_10 rfl rfl ?_
      refine xp_0 K.1 (fun u59 u60 bu59 bu60 A61 => ?_)
      refine xi_virtual (mj := 96) (as := [.int (-2)]) (st1 := []) (lv0 := [(0, .ref 0), (1, .int (-2))]) kc_100_12 rfl rfl rfl rfl rfl A61 (Nat.le_of_ble_eq_true rfl) (hJ _ _ _ _ (by decide)) (xm_le ml_96 rfl) rfl ?_
      refine xi_ldc_w (pc' := 3) (v := 1000000000) kc_96_0 rfl rfl ?_
      refine xi_aload_n (pc' := 4) (x := 0) kc_96_3 rfl rfl ?_
      refine xi_iload_n (pc' := 5) (x := (-2)) kc_96_4 rfl rfl ?_
      refine xi_virtual (mj := 90) (as := [.int (-2)]) (st1 := [.int 1000000000]) (lv0 := [(0, .ref 0), (1, .int (-2))]) kc_96_5 rfl rfl rfl rfl rfl A61 (Nat.le_of_ble_eq_true rfl) (hJ _ _ _ _ (by decide)) (xm_le ml_90 rfl) rfl ?_
      refine xi_iload_n (pc' := 1) (x := (-2)) kc_90_0 rfl rfl ?_
      refine xi_ineg (pc' := 2) (v := 2) kc_90_1 rfl rfl ?_
      refine xi_istore_n (pc' := 3) (lv' := [(2, .int 2), (0, .ref 0), (1, .int (-2))]) kc_90_2 rfl rfl (xm_lt ml_90 rfl) ?_
      refine xi_iload_n (pc' := 4) (x := 2) kc_90_3 rfl rfl ?_
      refine xi_iff (pc' := 7) kc_90_4 rfl rfl ?_
      refine xi_iload_n (pc' := 8) (x := 2) kc_90_7 rfl rfl ?_
      refine xi_aload_n (pc' := 9) (x := 0) kc_90_8 rfl rfl ?_
      refine xi_getfield (pc' := 12) (v := .ref 94) kc_90_9 rfl rfl rfl A61 rfl ?_
      refine xcps4 (xk_arr K.1 xD_94) (fun y62 A62 hy62 ry62 => ?_)
      refine xi_arraylength (pc' := 13) (n := 7) (v := 7) kc_90_12 rfl (xl_lenI (by decide) (by decide) A62 hy62) rfl ?_
      refine xi_cmf (pc' := 16) kc_90_13 rfl rfl ?_
      refine xi_aload_n (pc' := 17) (x := 0) kc_90_16 rfl rfl ?_
      refine xi_getfield (pc' := 20) (v := .ref 94) kc_90_17 rfl rfl rfl A61 rfl ?_
      refine xi_iload_n (pc' := 21) (x := 2) kc_90_20 rfl rfl ?_
      refine xi_dup2 (pc' := 22) kc_90_21 rfl ⟨rfl, rfl⟩ ?_
      refine xcps4 (xj_get hy62 ry62 (i := 2) (by decide) (by decide)) (fun v63 ev63 bv63 dv63 => ?_)
      refine xi_iaload (pc' := 23) (v := v63) kc_90_22 rfl A62 (by decide) rfl (xi_in (by decide) (by rw [hy62]; decide)) ev63 ?_
      refine xi_iconst (pc' := 24) (v := 1) kc_90_23 rfl rfl ?_
      refine xcps2 (α := Int32) ((v63 : Int32) + 1) (fun v64 ev64 => ?_)
      have rv64 := xc_rng v64
      refine xi_iadd (pc' := 25) (v := v64) kc_90_24 rfl ev64 ?_
      refine xcps4 (xj_set (v := v64) hy62 ry62 2 (by first | omega | decide) (by first | omega | decide)) (fun y65 s65 hy65 ry65 => ?_)
      refine xi_iastore (pc' := 26) (x' := y65) kc_90_25 rfl A62 rfl (xi_in (by decide) (by rw [hy62]; decide)) s65 (fun hh65 eh65 => ?_)
      have K66 := xk_pa K (xk_wa rfl) xD_94 hy65 ry65 eh65
      refine xi_iload_n (pc' := 27) (x := (-2)) kc_90_26 rfl rfl ?_
      refine xi_ireturn kc_90_27 mr_90 rfl ?_
      show xw J ov (d + 1) 96 (8, [(0, .ref 0), (1, .int (-2))], [.int (-2), .int 1000000000], hh65) _
      refine xi_isub (pc' := 9) (v := 1000000002) kc_96_8 rfl rfl ?_
      refine xi_ireturn kc_96_9 mr_96 rfl ?_
      show xw J ov (d + 2) 100 (15, [(0, .ref 0), (1, .int x1), (2, .int x2)], [.int 1000000002], hh65) _
      refine xi_ireturn kc_100_15 mr_100 rfl ?_
      have zc1000000002 : (1000000002 : Int32).toInt = 1000000002 := by decide
      exact kk 1000000002 hh65 K66
set_option maxHeartbeats 4000000 in
theorem mt_2_0 {J : xe_J} {ov : List (List Int32)} (hJ : ∀ d mj as h, mj ≠ xe_loff → J d mj as h = none) (hov1 : ov[1]? = some [10, 0, 0, 0, 0, 0]) (hov2 : ov[2]? = some [99, 30, 50, 50, 1, 99999]) {d : Nat} {Q : Option Value → xe_H → Prop} {h : xe_H} {x0 : Int32} (T : xt h) (b0 : ((-2147483648) ≤ x0.toInt ∧ x0.toInt ≤ 5)) (kk : (∀ (r : Int32) (h' : xe_H), xk [(0, 9), (115, 1), (83, 0), (29, 0), (31, 0), (33, 0), (35, 0), (37, 0), (39, 0), (41, 0), (43, 0), (45, 0), (47, 0), (49, 0), (51, 0), (125, 0), (66, 8), (115, 18), (71, 0), (132, 0)] h h' → Q (some (.int r)) h')) : xw J ov (d + 1) 2 (0, [(0, .int x0)], [], h) Q := by
  have K : xk [(0, 9), (115, 1), (83, 0), (29, 0), (31, 0), (33, 0), (35, 0), (37, 0), (39, 0), (41, 0), (43, 0), (45, 0), (47, 0), (49, 0), (51, 0), (125, 0), (66, 8), (115, 18), (71, 0), (132, 0)] h h := xk_re T
  refine xi_iload_n (pc' := 1) (x := x0) kc_2_0 rfl rfl ?_
  by_cases c1 : 0 ≤ x0.toInt
  · refine xi_ift (pc' := 9) kc_2_1 rfl (xc_ge_t (X := x0.toInt) (Y := 0) rfl (by decide) (by omega)) ?_
    refine xi_iload_n (pc' := 10) (x := x0) kc_2_9 rfl rfl ?_
    refine xi_ireturn kc_2_10 mr_2 rfl ?_
    exact kk x0 h K
  · refine xi_iff (pc' := 4) kc_2_1 rfl (xc_ge_f (X := x0.toInt) (Y := 0) rfl (by decide) (by omega)) ?_
    refine xi_iload_n (pc' := 5) (x := x0) kc_2_4 rfl rfl ?_
    refine xcps2 (α := Int32) (-x0) (fun v2 ev2 => ?_)
    have rv2 := xc_rng v2
    refine xi_ineg (pc' := 6) (v := v2) kc_2_5 rfl ev2 ?_
    refine xi_goto (pc' := 10) kc_2_6 rfl ?_
    refine xi_ireturn kc_2_10 mr_2 rfl ?_
    exact kk v2 h K
set_option maxHeartbeats 4000000 in
theorem mt_102_0 {J : xe_J} {ov : List (List Int32)} (hJ : ∀ d mj as h, mj ≠ xe_loff → J d mj as h = none) (hov1 : ov[1]? = some [10, 0, 0, 0, 0, 0]) (hov2 : ov[2]? = some [99, 30, 50, 50, 1, 99999]) {d : Nat} {Q : Option Value → xe_H → Prop} {h : xe_H} {x0 : Int32} (T : xt h) (kk : (∀ (r : Int32) (h' : xe_H), ((-53687087) ≤ r.toInt ∧ r.toInt ≤ 1127428920) → xk [(0, 9), (115, 1), (83, 0), (29, 0), (31, 0), (33, 0), (35, 0), (37, 0), (39, 0), (41, 0), (43, 0), (45, 0), (47, 0), (49, 0), (51, 0), (125, 0), (66, 8), (115, 18), (71, 0), (132, 0)] h h' → Q (some (.int r)) h')) : xw J ov (d + 2) 102 (0, [(0, .int x0)], [], h) Q := by
  have K : xk [(0, 9), (115, 1), (83, 0), (29, 0), (31, 0), (33, 0), (35, 0), (37, 0), (39, 0), (41, 0), (43, 0), (45, 0), (47, 0), (49, 0), (51, 0), (125, 0), (66, 8), (115, 18), (71, 0), (132, 0)] h h := xk_re T
  have rx0 := xc_rng x0
  refine xi_iload_n (pc' := 1) (x := x0) kc_102_0 rfl rfl ?_
  by_cases c1 : x0.toInt < 0
  · refine xi_ift (pc' := 17) kc_102_1 rfl (xc_lt_t (X := x0.toInt) (Y := 0) rfl (by decide) (by omega)) ?_
    refine xi_iconst (pc' := 18) (v := 5) kc_102_17 rfl rfl ?_
    refine xi_iload_n (pc' := 19) (x := x0) kc_102_18 rfl rfl ?_
    refine xi_static (mj := 2) (as := [.int x0]) (st1 := [.int 5]) (lv0 := [(0, .int x0)]) kc_102_19 rfl rfl (Nat.le_of_ble_eq_true rfl) rfl rfl (Nat.le_of_ble_eq_true rfl) (hJ _ _ _ _ (by decide)) (xm_le ml_2 rfl) rfl ?_
    refine mt_2_0 hJ hov1 hov2 (d := d) (x0 := x0) K.1 (by first | omega | decide) (fun r2 hh3 K4 => ?_)
    have br2 := xc_rng r2
    have K5 := xk_tr K K4 rfl
    show xw J ov (d + 2) 102 (22, [(0, .int x0)], [.int r2, .int 5], hh3) _
    refine xi_iconst (pc' := 23) (v := 5) kc_102_22 rfl rfl ?_
    refine xcps2 (α := Int32) (r2 / 5) (fun v6 ev6 => ?_)
    have dv6 : 5 * v6.toInt ≤ r2.toInt + 4 ∧ r2.toInt ≤ 5 * v6.toInt + 4 := by rw [← ev6]; exact xz_div (X := r2.toInt) (Y := 5) rfl (by decide) (by decide)
    have bv6 : -429496730 ≤ v6.toInt ∧ v6.toInt ≤ 429496730 := by omega
    refine xi_idiv (pc' := 24) (v := v6) kc_102_23 rfl ev6 (by decide) ?_
    refine xcps2 (α := Int32) (5 - v6) (fun v7 ev7 => ?_)
    have zv7 : v7.toInt = ((-1) * v6.toInt + 5) := by rw [← ev7]; exact (xz_sub (X := 5) (Y := v6.toInt) (by decide) rfl (by omega) (by omega)).trans (by omega)
    refine xi_isub (pc' := 25) (v := v7) kc_102_24 rfl ev7 ?_
    refine xi_istore_n (pc' := 26) (lv' := [(1, .int v7), (0, .int x0)]) kc_102_25 rfl rfl (xm_lt ml_102 rfl) ?_
    refine xi_iload_n (pc' := 27) (x := v7) kc_102_26 rfl rfl ?_
    refine xi_iconst (pc' := 28) (v := 1) kc_102_27 rfl rfl ?_
    by_cases c8 : 1 ≤ ((-1) * v6.toInt + 5)
    · refine xi_cmt (pc' := 35) kc_102_28 rfl (xc_ge_t (X := ((-1) * v6.toInt + 5)) (Y := 1) zv7 (by decide) (by omega)) ?_
      refine xi_iload_n (pc' := 36) (x := v7) kc_102_35 rfl rfl ?_
      refine xi_ireturn kc_102_36 mr_102 rfl ?_
      exact kk v7 hh3 (by omega) K5
    · refine xi_cmf (pc' := 31) kc_102_28 rfl (xc_ge_f (X := ((-1) * v6.toInt + 5)) (Y := 1) zv7 (by decide) (by omega)) ?_
      refine xi_iconst (pc' := 32) (v := 1) kc_102_31 rfl rfl ?_
      refine xi_goto (pc' := 36) kc_102_32 rfl ?_
      refine xi_ireturn kc_102_36 mr_102 rfl ?_
      have zc1 : (1 : Int32).toInt = 1 := by decide
      exact kk 1 hh3 (by omega) K5
  · refine xi_iff (pc' := 4) kc_102_1 rfl (xc_lt_f (X := x0.toInt) (Y := 0) rfl (by decide) (by omega)) ?_
    refine xi_iconst (pc' := 5) (v := 5) kc_102_4 rfl rfl ?_
    refine xi_iload_n (pc' := 6) (x := x0) kc_102_5 rfl rfl ?_
    refine xi_iconst (pc' := 7) (v := 2) kc_102_6 rfl rfl ?_
    refine xcps2 (α := Int32) (x0 / 2) (fun v9 ev9 => ?_)
    have dv9 : v9.toInt = x0.toInt / 2 := by rw [← ev9]; exact xz_dive (X := x0.toInt) (Y := 2) rfl (by decide) (by omega) (by decide)
    have bv9 : 0 ≤ v9.toInt ∧ v9.toInt ≤ 1073741823 := by omega
    refine xi_idiv (pc' := 8) (v := v9) kc_102_7 rfl ev9 (by decide) ?_
    refine xcps2 (α := Int32) (5 + v9) (fun v10 ev10 => ?_)
    have zv10 : v10.toInt = (v9.toInt + 5) := by rw [← ev10]; exact (xz_add (X := 5) (Y := v9.toInt) (by decide) rfl (by omega) (by omega)).trans (by omega)
    refine xi_iadd (pc' := 9) (v := v10) kc_102_8 rfl ev10 ?_
    refine xi_iload_n (pc' := 10) (x := x0) kc_102_9 rfl rfl ?_
    refine xi_iload_n (pc' := 11) (x := x0) kc_102_10 rfl rfl ?_
    refine xcps2 (α := Int32) ((x0 : Int32) * x0) (fun v11 ev11 => ?_)
    have rv11 := xc_rng v11
    refine xi_imul (pc' := 12) (v := v11) kc_102_11 rfl ev11 ?_
    refine xi_bipush (pc' := 14) (v := 40) kc_102_12 rfl rfl ?_
    refine xcps2 (α := Int32) (v11 / 40) (fun v12 ev12 => ?_)
    have dv12 : 40 * v12.toInt ≤ v11.toInt + 39 ∧ v11.toInt ≤ 40 * v12.toInt + 39 := by rw [← ev12]; exact xz_div (X := v11.toInt) (Y := 40) rfl (by decide) (by decide)
    have bv12 : -53687092 ≤ v12.toInt ∧ v12.toInt ≤ 53687092 := by omega
    refine xi_idiv (pc' := 15) (v := v12) kc_102_14 rfl ev12 (by decide) ?_
    refine xcps2 (α := Int32) (v10 + v12) (fun v13 ev13 => ?_)
    have zv13 : v13.toInt = (v9.toInt + v12.toInt + 5) := by rw [← ev13]; exact (xz_add (X := (v9.toInt + 5)) (Y := v12.toInt) zv10 rfl (by omega) (by omega)).trans (by omega)
    refine xi_iadd (pc' := 16) (v := v13) kc_102_15 rfl ev13 ?_
    refine xi_ireturn kc_102_16 mr_102 rfl ?_
    exact kk v13 h (by omega) K
set_option maxHeartbeats 4000000 in
theorem mt_101_0 {J : xe_J} {ov : List (List Int32)} (hJ : ∀ d mj as h, mj ≠ xe_loff → J d mj as h = none) (hov1 : ov[1]? = some [10, 0, 0, 0, 0, 0]) (hov2 : ov[2]? = some [99, 30, 50, 50, 1, 99999]) {d : Nat} {Q : Option Value → xe_H → Prop} {h : xe_H} {x1 : Int32} (T : xt h) (kk : (∀ (r : Int32) (h' : xe_H), ((-53687087) ≤ r.toInt ∧ r.toInt ≤ 1127428920) → xk [(0, 9), (115, 1), (83, 0), (29, 0), (31, 0), (33, 0), (35, 0), (37, 0), (39, 0), (41, 0), (43, 0), (45, 0), (47, 0), (49, 0), (51, 0), (125, 0), (66, 8), (115, 18), (71, 0), (132, 0)] h h' → Q (some (.int r)) h')) : xw J ov (d + 3) 101 (0, [(0, .ref 0), (1, .int x1)], [], h) Q := by
  have K : xk [(0, 9), (115, 1), (83, 0), (29, 0), (31, 0), (33, 0), (35, 0), (37, 0), (39, 0), (41, 0), (43, 0), (45, 0), (47, 0), (49, 0), (51, 0), (125, 0), (66, 8), (115, 18), (71, 0), (132, 0)] h h := xk_re T
  have rx1 := xc_rng x1
  refine xi_iload_n (pc' := 1) (x := x1) kc_101_0 rfl rfl ?_
  refine xi_bipush (pc' := 3) (v := (-20)) kc_101_1 rfl rfl ?_
  by_cases c1 : (-20) ≤ x1.toInt
  · refine xi_cmt (pc' := 13) kc_101_3 rfl (xc_ge_t (X := x1.toInt) (Y := (-20)) rfl (by decide) (by omega)) ?_
    refine xi_iload_n (pc' := 14) (x := x1) kc_101_13 rfl rfl ?_
    refine xi_bipush (pc' := 16) (v := 30) kc_101_14 rfl rfl ?_
    by_cases c2 : x1.toInt ≤ 30
    · refine xi_cmt (pc' := 26) kc_101_16 rfl (xc_le_t (X := x1.toInt) (Y := 30) rfl (by decide) (by omega)) ?_
      refine xi_iload_n (pc' := 27) (x := x1) kc_101_26 rfl rfl ?_
      refine xi_static (mj := 102) (as := [.int x1]) (st1 := []) (lv0 := [(0, .int x1)]) kc_101_27 rfl rfl (Nat.le_of_ble_eq_true rfl) rfl rfl (Nat.le_of_ble_eq_true rfl) (hJ _ _ _ _ (by decide)) (xm_le ml_102 rfl) rfl ?_
      refine mt_102_0 hJ hov1 hov2 (d := d) (x0 := x1) K.1 (fun r3 hh4 br3 K5 => ?_)
      have K6 := xk_tr K K5 rfl
      show xw J ov (d + 3) 101 (30, [(0, .ref 0), (1, .int x1)], [.int r3], hh4) _
      refine xi_ireturn kc_101_30 mr_101 rfl ?_
      exact kk r3 hh4 (by omega) K6
    · refine xi_cmf (pc' := 19) kc_101_16 rfl (xc_le_f (X := x1.toInt) (Y := 30) rfl (by decide) (by omega)) ?_
      refine xi_aload_n (pc' := 20) (x := 0) kc_101_19 rfl rfl ?_
      refine xi_bipush (pc' := 22) (v := (-6)) kc_101_20 rfl rfl ?_
      refine xp_0 K.1 (fun u7 u8 bu7 bu8 A9 => ?_)
      refine xi_virtual (mj := 90) (as := [.int (-6)]) (st1 := []) (lv0 := [(0, .ref 0), (1, .int (-6))]) kc_101_22 rfl rfl rfl rfl rfl A9 (Nat.le_of_ble_eq_true rfl) (hJ _ _ _ _ (by decide)) (xm_le ml_90 rfl) rfl ?_
      refine xi_iload_n (pc' := 1) (x := (-6)) kc_90_0 rfl rfl ?_
      refine xi_ineg (pc' := 2) (v := 6) kc_90_1 rfl rfl ?_
      refine xi_istore_n (pc' := 3) (lv' := [(2, .int 6), (0, .ref 0), (1, .int (-6))]) kc_90_2 rfl rfl (xm_lt ml_90 rfl) ?_
      refine xi_iload_n (pc' := 4) (x := 6) kc_90_3 rfl rfl ?_
      refine xi_iff (pc' := 7) kc_90_4 rfl rfl ?_
      refine xi_iload_n (pc' := 8) (x := 6) kc_90_7 rfl rfl ?_
      refine xi_aload_n (pc' := 9) (x := 0) kc_90_8 rfl rfl ?_
      refine xi_getfield (pc' := 12) (v := .ref 94) kc_90_9 rfl rfl rfl A9 rfl ?_
      refine xcps4 (xk_arr K.1 xD_94) (fun y10 A10 hy10 ry10 => ?_)
      refine xi_arraylength (pc' := 13) (n := 7) (v := 7) kc_90_12 rfl (xl_lenI (by decide) (by decide) A10 hy10) rfl ?_
      refine xi_cmf (pc' := 16) kc_90_13 rfl rfl ?_
      refine xi_aload_n (pc' := 17) (x := 0) kc_90_16 rfl rfl ?_
      refine xi_getfield (pc' := 20) (v := .ref 94) kc_90_17 rfl rfl rfl A9 rfl ?_
      refine xi_iload_n (pc' := 21) (x := 6) kc_90_20 rfl rfl ?_
      refine xi_dup2 (pc' := 22) kc_90_21 rfl ⟨rfl, rfl⟩ ?_
      refine xcps4 (xj_get hy10 ry10 (i := 6) (by decide) (by decide)) (fun v11 ev11 bv11 dv11 => ?_)
      refine xi_iaload (pc' := 23) (v := v11) kc_90_22 rfl A10 (by decide) rfl (xi_in (by decide) (by rw [hy10]; decide)) ev11 ?_
      refine xi_iconst (pc' := 24) (v := 1) kc_90_23 rfl rfl ?_
      refine xcps2 (α := Int32) ((v11 : Int32) + 1) (fun v12 ev12 => ?_)
      have rv12 := xc_rng v12
      refine xi_iadd (pc' := 25) (v := v12) kc_90_24 rfl ev12 ?_
      refine xcps4 (xj_set (v := v12) hy10 ry10 6 (by first | omega | decide) (by first | omega | decide)) (fun y13 s13 hy13 ry13 => ?_)
      refine xi_iastore (pc' := 26) (x' := y13) kc_90_25 rfl A10 rfl (xi_in (by decide) (by rw [hy10]; decide)) s13 (fun hh13 eh13 => ?_)
      have K14 := xk_pa K (xk_wa rfl) xD_94 hy13 ry13 eh13
      refine xi_iload_n (pc' := 27) (x := (-6)) kc_90_26 rfl rfl ?_
      refine xi_ireturn kc_90_27 mr_90 rfl ?_
      show xw J ov (d + 3) 101 (25, [(0, .ref 0), (1, .int x1)], [.int (-6)], hh13) _
      refine xi_ireturn kc_101_25 mr_101 rfl ?_
      have zcm6 : ((-6) : Int32).toInt = (-6) := by decide
      exact kk (-6) hh13 (by omega) K14
  · refine xi_cmf (pc' := 6) kc_101_3 rfl (xc_ge_f (X := x1.toInt) (Y := (-20)) rfl (by decide) (by omega)) ?_
    refine xi_aload_n (pc' := 7) (x := 0) kc_101_6 rfl rfl ?_
    refine xi_bipush (pc' := 9) (v := (-4)) kc_101_7 rfl rfl ?_
    refine xp_0 K.1 (fun u15 u16 bu15 bu16 A17 => ?_)
    refine xi_virtual (mj := 90) (as := [.int (-4)]) (st1 := []) (lv0 := [(0, .ref 0), (1, .int (-4))]) kc_101_9 rfl rfl rfl rfl rfl A17 (Nat.le_of_ble_eq_true rfl) (hJ _ _ _ _ (by decide)) (xm_le ml_90 rfl) rfl ?_
    refine xi_iload_n (pc' := 1) (x := (-4)) kc_90_0 rfl rfl ?_
    refine xi_ineg (pc' := 2) (v := 4) kc_90_1 rfl rfl ?_
    refine xi_istore_n (pc' := 3) (lv' := [(2, .int 4), (0, .ref 0), (1, .int (-4))]) kc_90_2 rfl rfl (xm_lt ml_90 rfl) ?_
    refine xi_iload_n (pc' := 4) (x := 4) kc_90_3 rfl rfl ?_
    refine xi_iff (pc' := 7) kc_90_4 rfl rfl ?_
    refine xi_iload_n (pc' := 8) (x := 4) kc_90_7 rfl rfl ?_
    refine xi_aload_n (pc' := 9) (x := 0) kc_90_8 rfl rfl ?_
    refine xi_getfield (pc' := 12) (v := .ref 94) kc_90_9 rfl rfl rfl A17 rfl ?_
    refine xcps4 (xk_arr K.1 xD_94) (fun y18 A18 hy18 ry18 => ?_)
    refine xi_arraylength (pc' := 13) (n := 7) (v := 7) kc_90_12 rfl (xl_lenI (by decide) (by decide) A18 hy18) rfl ?_
    refine xi_cmf (pc' := 16) kc_90_13 rfl rfl ?_
    refine xi_aload_n (pc' := 17) (x := 0) kc_90_16 rfl rfl ?_
    refine xi_getfield (pc' := 20) (v := .ref 94) kc_90_17 rfl rfl rfl A17 rfl ?_
    refine xi_iload_n (pc' := 21) (x := 4) kc_90_20 rfl rfl ?_
    refine xi_dup2 (pc' := 22) kc_90_21 rfl ⟨rfl, rfl⟩ ?_
    refine xcps4 (xj_get hy18 ry18 (i := 4) (by decide) (by decide)) (fun v19 ev19 bv19 dv19 => ?_)
    refine xi_iaload (pc' := 23) (v := v19) kc_90_22 rfl A18 (by decide) rfl (xi_in (by decide) (by rw [hy18]; decide)) ev19 ?_
    refine xi_iconst (pc' := 24) (v := 1) kc_90_23 rfl rfl ?_
    refine xcps2 (α := Int32) ((v19 : Int32) + 1) (fun v20 ev20 => ?_)
    have rv20 := xc_rng v20
    refine xi_iadd (pc' := 25) (v := v20) kc_90_24 rfl ev20 ?_
    refine xcps4 (xj_set (v := v20) hy18 ry18 4 (by first | omega | decide) (by first | omega | decide)) (fun y21 s21 hy21 ry21 => ?_)
    refine xi_iastore (pc' := 26) (x' := y21) kc_90_25 rfl A18 rfl (xi_in (by decide) (by rw [hy18]; decide)) s21 (fun hh21 eh21 => ?_)
    have K22 := xk_pa K (xk_wa rfl) xD_94 hy21 ry21 eh21
    refine xi_iload_n (pc' := 27) (x := (-4)) kc_90_26 rfl rfl ?_
    refine xi_ireturn kc_90_27 mr_90 rfl ?_
    show xw J ov (d + 3) 101 (12, [(0, .ref 0), (1, .int x1)], [.int (-4)], hh21) _
    refine xi_ireturn kc_101_12 mr_101 rfl ?_
    have zcm4 : ((-4) : Int32).toInt = (-4) := by decide
    exact kk (-4) hh21 (by omega) K22
set_option maxHeartbeats 4000000 in
theorem mt_103_0 {J : xe_J} {ov : List (List Int32)} (hJ : ∀ d mj as h, mj ≠ xe_loff → J d mj as h = none) (hov1 : ov[1]? = some [10, 0, 0, 0, 0, 0]) (hov2 : ov[2]? = some [99, 30, 50, 50, 1, 99999]) {d : Nat} {Q : Option Value → xe_H → Prop} {h : xe_H} {x1 : Int32} {x2 : Int32} {x3 : Int32} {x4 : Int32} (T : xt h) (b4 : (0 ≤ x4.toInt ∧ x4.toInt ≤ 1)) (kk : (∀ (r : Int32) (h' : xe_H), ((-6) ≤ r.toInt ∧ r.toInt ≤ 1) → xk [(0, 9), (115, 1), (83, 0), (125, 0), (66, 8), (115, 18), (71, 0), (132, 0)] h h' → Q (some (.int r)) h')) : xw J ov (d + 2) 103 (0, [(0, .ref 0), (1, .int x1), (2, .int x2), (3, .int x3), (4, .int x4)], [], h) Q := by
  have K : xk [(0, 9), (115, 1), (83, 0), (125, 0), (66, 8), (115, 18), (71, 0), (132, 0)] h h := xk_re T
  have rx1 := xc_rng x1
  have rx2 := xc_rng x2
  have rx3 := xc_rng x3
  refine xi_iload_n (pc' := 1) (x := x1) kc_103_0 rfl rfl ?_
  refine xi_static (mj := 104) (as := [.int x1]) (st1 := []) (lv0 := [(0, .int x1)]) kc_103_1 rfl rfl (Nat.le_of_ble_eq_true rfl) rfl rfl (Nat.le_of_ble_eq_true rfl) (hJ _ _ _ _ (by decide)) (xm_le ml_104 rfl) rfl ?_
  refine xi_iload_n (pc' := 1) (x := x1) kc_104_0 rfl rfl ?_
  by_cases c1 : x1.toInt < 0
  · refine xi_ift (pc' := 14) kc_104_1 rfl (xc_lt_t (X := x1.toInt) (Y := 0) rfl (by decide) (by omega)) ?_
    refine xi_iconst (pc' := 15) (v := 0) kc_104_14 rfl rfl ?_
    refine xi_ireturn kc_104_15 mr_104 rfl ?_
    show xw J ov (d + 2) 103 (4, [(0, .ref 0), (1, .int x1), (2, .int x2), (3, .int x3), (4, .int x4)], [.int 0], h) _
    refine xi_ift (pc' := 14) kc_103_4 rfl rfl ?_
    refine xi_aload_n (pc' := 15) (x := 0) kc_103_14 rfl rfl ?_
    refine xi_iconst (pc' := 16) (v := (-1)) kc_103_15 rfl rfl ?_
    refine xp_0 K.1 (fun u2 u3 bu2 bu3 A4 => ?_)
    refine xi_virtual (mj := 90) (as := [.int (-1)]) (st1 := []) (lv0 := [(0, .ref 0), (1, .int (-1))]) kc_103_16 rfl rfl rfl rfl rfl A4 (Nat.le_of_ble_eq_true rfl) (hJ _ _ _ _ (by decide)) (xm_le ml_90 rfl) rfl ?_
    refine xi_iload_n (pc' := 1) (x := (-1)) kc_90_0 rfl rfl ?_
    refine xi_ineg (pc' := 2) (v := 1) kc_90_1 rfl rfl ?_
    refine xi_istore_n (pc' := 3) (lv' := [(2, .int 1), (0, .ref 0), (1, .int (-1))]) kc_90_2 rfl rfl (xm_lt ml_90 rfl) ?_
    refine xi_iload_n (pc' := 4) (x := 1) kc_90_3 rfl rfl ?_
    refine xi_iff (pc' := 7) kc_90_4 rfl rfl ?_
    refine xi_iload_n (pc' := 8) (x := 1) kc_90_7 rfl rfl ?_
    refine xi_aload_n (pc' := 9) (x := 0) kc_90_8 rfl rfl ?_
    refine xi_getfield (pc' := 12) (v := .ref 94) kc_90_9 rfl rfl rfl A4 rfl ?_
    refine xcps4 (xk_arr K.1 xD_94) (fun y5 A5 hy5 ry5 => ?_)
    refine xi_arraylength (pc' := 13) (n := 7) (v := 7) kc_90_12 rfl (xl_lenI (by decide) (by decide) A5 hy5) rfl ?_
    refine xi_cmf (pc' := 16) kc_90_13 rfl rfl ?_
    refine xi_aload_n (pc' := 17) (x := 0) kc_90_16 rfl rfl ?_
    refine xi_getfield (pc' := 20) (v := .ref 94) kc_90_17 rfl rfl rfl A4 rfl ?_
    refine xi_iload_n (pc' := 21) (x := 1) kc_90_20 rfl rfl ?_
    refine xi_dup2 (pc' := 22) kc_90_21 rfl ⟨rfl, rfl⟩ ?_
    refine xcps4 (xj_get hy5 ry5 (i := 1) (by decide) (by decide)) (fun v6 ev6 bv6 dv6 => ?_)
    refine xi_iaload (pc' := 23) (v := v6) kc_90_22 rfl A5 (by decide) rfl (xi_in (by decide) (by rw [hy5]; decide)) ev6 ?_
    refine xi_iconst (pc' := 24) (v := 1) kc_90_23 rfl rfl ?_
    refine xcps2 (α := Int32) ((v6 : Int32) + 1) (fun v7 ev7 => ?_)
    have rv7 := xc_rng v7
    refine xi_iadd (pc' := 25) (v := v7) kc_90_24 rfl ev7 ?_
    refine xcps4 (xj_set (v := v7) hy5 ry5 1 (by first | omega | decide) (by first | omega | decide)) (fun y8 s8 hy8 ry8 => ?_)
    refine xi_iastore (pc' := 26) (x' := y8) kc_90_25 rfl A5 rfl (xi_in (by decide) (by rw [hy5]; decide)) s8 (fun hh8 eh8 => ?_)
    have K9 := xk_pa K (xk_wa rfl) xD_94 hy8 ry8 eh8
    refine xi_iload_n (pc' := 27) (x := (-1)) kc_90_26 rfl rfl ?_
    refine xi_ireturn kc_90_27 mr_90 rfl ?_
    show xw J ov (d + 2) 103 (19, [(0, .ref 0), (1, .int x1), (2, .int x2), (3, .int x3), (4, .int x4)], [.int (-1)], hh8) _
    refine xi_ireturn kc_103_19 mr_103 rfl ?_
    have zcm1 : ((-1) : Int32).toInt = (-1) := by decide
    exact kk (-1) hh8 (by omega) K9
  · refine xi_iff (pc' := 4) kc_104_1 rfl (xc_lt_f (X := x1.toInt) (Y := 0) rfl (by decide) (by omega)) ?_
    refine xi_iload_n (pc' := 5) (x := x1) kc_104_4 rfl rfl ?_
    refine xi_bipush (pc' := 7) (v := 12) kc_104_5 rfl rfl ?_
    by_cases c10 : 12 ≤ x1.toInt
    · refine xi_cmt (pc' := 14) kc_104_7 rfl (xc_ge_t (X := x1.toInt) (Y := 12) rfl (by decide) (by omega)) ?_
      refine xi_iconst (pc' := 15) (v := 0) kc_104_14 rfl rfl ?_
      refine xi_ireturn kc_104_15 mr_104 rfl ?_
      show xw J ov (d + 2) 103 (4, [(0, .ref 0), (1, .int x1), (2, .int x2), (3, .int x3), (4, .int x4)], [.int 0], h) _
      refine xi_ift (pc' := 14) kc_103_4 rfl rfl ?_
      refine xi_aload_n (pc' := 15) (x := 0) kc_103_14 rfl rfl ?_
      refine xi_iconst (pc' := 16) (v := (-1)) kc_103_15 rfl rfl ?_
      refine xp_0 K.1 (fun u11 u12 bu11 bu12 A13 => ?_)
      refine xi_virtual (mj := 90) (as := [.int (-1)]) (st1 := []) (lv0 := [(0, .ref 0), (1, .int (-1))]) kc_103_16 rfl rfl rfl rfl rfl A13 (Nat.le_of_ble_eq_true rfl) (hJ _ _ _ _ (by decide)) (xm_le ml_90 rfl) rfl ?_
      refine xi_iload_n (pc' := 1) (x := (-1)) kc_90_0 rfl rfl ?_
      refine xi_ineg (pc' := 2) (v := 1) kc_90_1 rfl rfl ?_
      refine xi_istore_n (pc' := 3) (lv' := [(2, .int 1), (0, .ref 0), (1, .int (-1))]) kc_90_2 rfl rfl (xm_lt ml_90 rfl) ?_
      refine xi_iload_n (pc' := 4) (x := 1) kc_90_3 rfl rfl ?_
      refine xi_iff (pc' := 7) kc_90_4 rfl rfl ?_
      refine xi_iload_n (pc' := 8) (x := 1) kc_90_7 rfl rfl ?_
      refine xi_aload_n (pc' := 9) (x := 0) kc_90_8 rfl rfl ?_
      refine xi_getfield (pc' := 12) (v := .ref 94) kc_90_9 rfl rfl rfl A13 rfl ?_
      refine xcps4 (xk_arr K.1 xD_94) (fun y14 A14 hy14 ry14 => ?_)
      refine xi_arraylength (pc' := 13) (n := 7) (v := 7) kc_90_12 rfl (xl_lenI (by decide) (by decide) A14 hy14) rfl ?_
      refine xi_cmf (pc' := 16) kc_90_13 rfl rfl ?_
      refine xi_aload_n (pc' := 17) (x := 0) kc_90_16 rfl rfl ?_
      refine xi_getfield (pc' := 20) (v := .ref 94) kc_90_17 rfl rfl rfl A13 rfl ?_
      refine xi_iload_n (pc' := 21) (x := 1) kc_90_20 rfl rfl ?_
      refine xi_dup2 (pc' := 22) kc_90_21 rfl ⟨rfl, rfl⟩ ?_
      refine xcps4 (xj_get hy14 ry14 (i := 1) (by decide) (by decide)) (fun v15 ev15 bv15 dv15 => ?_)
      refine xi_iaload (pc' := 23) (v := v15) kc_90_22 rfl A14 (by decide) rfl (xi_in (by decide) (by rw [hy14]; decide)) ev15 ?_
      refine xi_iconst (pc' := 24) (v := 1) kc_90_23 rfl rfl ?_
      refine xcps2 (α := Int32) ((v15 : Int32) + 1) (fun v16 ev16 => ?_)
      have rv16 := xc_rng v16
      refine xi_iadd (pc' := 25) (v := v16) kc_90_24 rfl ev16 ?_
      refine xcps4 (xj_set (v := v16) hy14 ry14 1 (by first | omega | decide) (by first | omega | decide)) (fun y17 s17 hy17 ry17 => ?_)
      refine xi_iastore (pc' := 26) (x' := y17) kc_90_25 rfl A14 rfl (xi_in (by decide) (by rw [hy14]; decide)) s17 (fun hh17 eh17 => ?_)
      have K18 := xk_pa K (xk_wa rfl) xD_94 hy17 ry17 eh17
      refine xi_iload_n (pc' := 27) (x := (-1)) kc_90_26 rfl rfl ?_
      refine xi_ireturn kc_90_27 mr_90 rfl ?_
      show xw J ov (d + 2) 103 (19, [(0, .ref 0), (1, .int x1), (2, .int x2), (3, .int x3), (4, .int x4)], [.int (-1)], hh17) _
      refine xi_ireturn kc_103_19 mr_103 rfl ?_
      have zcm1 : ((-1) : Int32).toInt = (-1) := by decide
      exact kk (-1) hh17 (by omega) K18
    · refine xi_cmf (pc' := 10) kc_104_7 rfl (xc_ge_f (X := x1.toInt) (Y := 12) rfl (by decide) (by omega)) ?_
      refine xi_iconst (pc' := 11) (v := 1) kc_104_10 rfl rfl ?_
      refine xi_goto (pc' := 15) kc_104_11 rfl ?_
      refine xi_ireturn kc_104_15 mr_104 rfl ?_
      show xw J ov (d + 2) 103 (4, [(0, .ref 0), (1, .int x1), (2, .int x2), (3, .int x3), (4, .int x4)], [.int 1], h) _
      refine xi_iff (pc' := 7) kc_103_4 rfl rfl ?_
      refine xi_iload_n (pc' := 8) (x := x2) kc_103_7 rfl rfl ?_
      refine xi_static (mj := 89) (as := [.int x2]) (st1 := []) (lv0 := [(0, .int x2)]) kc_103_8 rfl rfl (Nat.le_of_ble_eq_true rfl) rfl rfl (Nat.le_of_ble_eq_true rfl) (hJ _ _ _ _ (by decide)) (xm_le ml_89 rfl) rfl ?_
      refine xi_iload_n (pc' := 1) (x := x2) kc_89_0 rfl rfl ?_
      by_cases c19 : x2.toInt < 0
      · refine xi_ift (pc' := 14) kc_89_1 rfl (xc_lt_t (X := x2.toInt) (Y := 0) rfl (by decide) (by omega)) ?_
        refine xi_iconst (pc' := 15) (v := 0) kc_89_14 rfl rfl ?_
        refine xi_ireturn kc_89_15 mr_89 rfl ?_
        show xw J ov (d + 2) 103 (11, [(0, .ref 0), (1, .int x1), (2, .int x2), (3, .int x3), (4, .int x4)], [.int 0], h) _
        refine xi_iff (pc' := 14) kc_103_11 rfl rfl ?_
        refine xi_aload_n (pc' := 15) (x := 0) kc_103_14 rfl rfl ?_
        refine xi_iconst (pc' := 16) (v := (-1)) kc_103_15 rfl rfl ?_
        refine xp_0 K.1 (fun u20 u21 bu20 bu21 A22 => ?_)
        refine xi_virtual (mj := 90) (as := [.int (-1)]) (st1 := []) (lv0 := [(0, .ref 0), (1, .int (-1))]) kc_103_16 rfl rfl rfl rfl rfl A22 (Nat.le_of_ble_eq_true rfl) (hJ _ _ _ _ (by decide)) (xm_le ml_90 rfl) rfl ?_
        refine xi_iload_n (pc' := 1) (x := (-1)) kc_90_0 rfl rfl ?_
        refine xi_ineg (pc' := 2) (v := 1) kc_90_1 rfl rfl ?_
        refine xi_istore_n (pc' := 3) (lv' := [(2, .int 1), (0, .ref 0), (1, .int (-1))]) kc_90_2 rfl rfl (xm_lt ml_90 rfl) ?_
        refine xi_iload_n (pc' := 4) (x := 1) kc_90_3 rfl rfl ?_
        refine xi_iff (pc' := 7) kc_90_4 rfl rfl ?_
        refine xi_iload_n (pc' := 8) (x := 1) kc_90_7 rfl rfl ?_
        refine xi_aload_n (pc' := 9) (x := 0) kc_90_8 rfl rfl ?_
        refine xi_getfield (pc' := 12) (v := .ref 94) kc_90_9 rfl rfl rfl A22 rfl ?_
        refine xcps4 (xk_arr K.1 xD_94) (fun y23 A23 hy23 ry23 => ?_)
        refine xi_arraylength (pc' := 13) (n := 7) (v := 7) kc_90_12 rfl (xl_lenI (by decide) (by decide) A23 hy23) rfl ?_
        refine xi_cmf (pc' := 16) kc_90_13 rfl rfl ?_
        refine xi_aload_n (pc' := 17) (x := 0) kc_90_16 rfl rfl ?_
        refine xi_getfield (pc' := 20) (v := .ref 94) kc_90_17 rfl rfl rfl A22 rfl ?_
        refine xi_iload_n (pc' := 21) (x := 1) kc_90_20 rfl rfl ?_
        refine xi_dup2 (pc' := 22) kc_90_21 rfl ⟨rfl, rfl⟩ ?_
        refine xcps4 (xj_get hy23 ry23 (i := 1) (by decide) (by decide)) (fun v24 ev24 bv24 dv24 => ?_)
        refine xi_iaload (pc' := 23) (v := v24) kc_90_22 rfl A23 (by decide) rfl (xi_in (by decide) (by rw [hy23]; decide)) ev24 ?_
        refine xi_iconst (pc' := 24) (v := 1) kc_90_23 rfl rfl ?_
        refine xcps2 (α := Int32) ((v24 : Int32) + 1) (fun v25 ev25 => ?_)
        have rv25 := xc_rng v25
        refine xi_iadd (pc' := 25) (v := v25) kc_90_24 rfl ev25 ?_
        refine xcps4 (xj_set (v := v25) hy23 ry23 1 (by first | omega | decide) (by first | omega | decide)) (fun y26 s26 hy26 ry26 => ?_)
        refine xi_iastore (pc' := 26) (x' := y26) kc_90_25 rfl A23 rfl (xi_in (by decide) (by rw [hy23]; decide)) s26 (fun hh26 eh26 => ?_)
        have K27 := xk_pa K (xk_wa rfl) xD_94 hy26 ry26 eh26
        refine xi_iload_n (pc' := 27) (x := (-1)) kc_90_26 rfl rfl ?_
        refine xi_ireturn kc_90_27 mr_90 rfl ?_
        show xw J ov (d + 2) 103 (19, [(0, .ref 0), (1, .int x1), (2, .int x2), (3, .int x3), (4, .int x4)], [.int (-1)], hh26) _
        refine xi_ireturn kc_103_19 mr_103 rfl ?_
        have zcm1 : ((-1) : Int32).toInt = (-1) := by decide
        exact kk (-1) hh26 (by omega) K27
      · refine xi_iff (pc' := 4) kc_89_1 rfl (xc_lt_f (X := x2.toInt) (Y := 0) rfl (by decide) (by omega)) ?_
        refine xi_iload_n (pc' := 5) (x := x2) kc_89_4 rfl rfl ?_
        refine xi_bipush (pc' := 7) (v := 6) kc_89_5 rfl rfl ?_
        by_cases c28 : 6 ≤ x2.toInt
        · refine xi_cmt (pc' := 14) kc_89_7 rfl (xc_ge_t (X := x2.toInt) (Y := 6) rfl (by decide) (by omega)) ?_
          refine xi_iconst (pc' := 15) (v := 0) kc_89_14 rfl rfl ?_
          refine xi_ireturn kc_89_15 mr_89 rfl ?_
          show xw J ov (d + 2) 103 (11, [(0, .ref 0), (1, .int x1), (2, .int x2), (3, .int x3), (4, .int x4)], [.int 0], h) _
          refine xi_iff (pc' := 14) kc_103_11 rfl rfl ?_
          refine xi_aload_n (pc' := 15) (x := 0) kc_103_14 rfl rfl ?_
          refine xi_iconst (pc' := 16) (v := (-1)) kc_103_15 rfl rfl ?_
          refine xp_0 K.1 (fun u29 u30 bu29 bu30 A31 => ?_)
          refine xi_virtual (mj := 90) (as := [.int (-1)]) (st1 := []) (lv0 := [(0, .ref 0), (1, .int (-1))]) kc_103_16 rfl rfl rfl rfl rfl A31 (Nat.le_of_ble_eq_true rfl) (hJ _ _ _ _ (by decide)) (xm_le ml_90 rfl) rfl ?_
          refine xi_iload_n (pc' := 1) (x := (-1)) kc_90_0 rfl rfl ?_
          refine xi_ineg (pc' := 2) (v := 1) kc_90_1 rfl rfl ?_
          refine xi_istore_n (pc' := 3) (lv' := [(2, .int 1), (0, .ref 0), (1, .int (-1))]) kc_90_2 rfl rfl (xm_lt ml_90 rfl) ?_
          refine xi_iload_n (pc' := 4) (x := 1) kc_90_3 rfl rfl ?_
          refine xi_iff (pc' := 7) kc_90_4 rfl rfl ?_
          refine xi_iload_n (pc' := 8) (x := 1) kc_90_7 rfl rfl ?_
          refine xi_aload_n (pc' := 9) (x := 0) kc_90_8 rfl rfl ?_
          refine xi_getfield (pc' := 12) (v := .ref 94) kc_90_9 rfl rfl rfl A31 rfl ?_
          refine xcps4 (xk_arr K.1 xD_94) (fun y32 A32 hy32 ry32 => ?_)
          refine xi_arraylength (pc' := 13) (n := 7) (v := 7) kc_90_12 rfl (xl_lenI (by decide) (by decide) A32 hy32) rfl ?_
          refine xi_cmf (pc' := 16) kc_90_13 rfl rfl ?_
          refine xi_aload_n (pc' := 17) (x := 0) kc_90_16 rfl rfl ?_
          refine xi_getfield (pc' := 20) (v := .ref 94) kc_90_17 rfl rfl rfl A31 rfl ?_
          refine xi_iload_n (pc' := 21) (x := 1) kc_90_20 rfl rfl ?_
          refine xi_dup2 (pc' := 22) kc_90_21 rfl ⟨rfl, rfl⟩ ?_
          refine xcps4 (xj_get hy32 ry32 (i := 1) (by decide) (by decide)) (fun v33 ev33 bv33 dv33 => ?_)
          refine xi_iaload (pc' := 23) (v := v33) kc_90_22 rfl A32 (by decide) rfl (xi_in (by decide) (by rw [hy32]; decide)) ev33 ?_
          refine xi_iconst (pc' := 24) (v := 1) kc_90_23 rfl rfl ?_
          refine xcps2 (α := Int32) ((v33 : Int32) + 1) (fun v34 ev34 => ?_)
          have rv34 := xc_rng v34
          refine xi_iadd (pc' := 25) (v := v34) kc_90_24 rfl ev34 ?_
          refine xcps4 (xj_set (v := v34) hy32 ry32 1 (by first | omega | decide) (by first | omega | decide)) (fun y35 s35 hy35 ry35 => ?_)
          refine xi_iastore (pc' := 26) (x' := y35) kc_90_25 rfl A32 rfl (xi_in (by decide) (by rw [hy32]; decide)) s35 (fun hh35 eh35 => ?_)
          have K36 := xk_pa K (xk_wa rfl) xD_94 hy35 ry35 eh35
          refine xi_iload_n (pc' := 27) (x := (-1)) kc_90_26 rfl rfl ?_
          refine xi_ireturn kc_90_27 mr_90 rfl ?_
          show xw J ov (d + 2) 103 (19, [(0, .ref 0), (1, .int x1), (2, .int x2), (3, .int x3), (4, .int x4)], [.int (-1)], hh35) _
          refine xi_ireturn kc_103_19 mr_103 rfl ?_
          have zcm1 : ((-1) : Int32).toInt = (-1) := by decide
          exact kk (-1) hh35 (by omega) K36
        · refine xi_cmf (pc' := 10) kc_89_7 rfl (xc_ge_f (X := x2.toInt) (Y := 6) rfl (by decide) (by omega)) ?_
          refine xi_iconst (pc' := 11) (v := 1) kc_89_10 rfl rfl ?_
          refine xi_goto (pc' := 15) kc_89_11 rfl ?_
          refine xi_ireturn kc_89_15 mr_89 rfl ?_
          show xw J ov (d + 2) 103 (11, [(0, .ref 0), (1, .int x1), (2, .int x2), (3, .int x3), (4, .int x4)], [.int 1], h) _
          refine xi_ift (pc' := 20) kc_103_11 rfl rfl ?_
          refine xi_iload_n (pc' := 21) (x := x3) kc_103_20 rfl rfl ?_
          by_cases c37 : 0 ≤ x3.toInt
          · refine xi_ift (pc' := 31) kc_103_21 rfl (xc_ge_t (X := x3.toInt) (Y := 0) rfl (by decide) (by omega)) ?_
            refine xi_iload_n (pc' := 32) (x := x3) kc_103_31 rfl rfl ?_
            refine xi_bipush (pc' := 34) (v := 100) kc_103_32 rfl rfl ?_
            by_cases c38 : x3.toInt ≤ 100
            · refine xi_cmt (pc' := 44) kc_103_34 rfl (xc_le_t (X := x3.toInt) (Y := 100) rfl (by decide) (by omega)) ?_
              refine xi_aload_n (pc' := 45) (x := 0) kc_103_44 rfl rfl ?_
              refine xp_0 K.1 (fun u39 u40 bu39 bu40 A41 => ?_)
              refine xi_getfield (pc' := 48) (v := .ref 66) kc_103_45 rfl rfl rfl A41 rfl ?_
              refine xp_66 K.1 (fun u43 wl42 bu43 A44 => ?_)
              refine xi_virtual (mj := 91) (as := []) (st1 := []) (lv0 := [(0, .ref 66)]) kc_103_48 rfl rfl rfl rfl rfl A44 (Nat.le_of_ble_eq_true rfl) (hJ _ _ _ _ (by decide)) (xm_le ml_91 rfl) rfl ?_
              refine xi_aload_n (pc' := 1) (x := 66) kc_91_0 rfl rfl ?_
              refine xi_lconst (pc' := 2) (v := 0) kc_91_1 rfl rfl ?_
              refine xi_putfield (pc' := 5) (fs' := [.ref 1, .ref 67, .ref 70, .ref 71, .ref 72, .ref 73, .ref 74, .long 0, .int u43]) kc_91_2 rfl rfl rfl A44 rfl rfl rfl (Nat.le_of_ble_eq_true rfl) rfl (fun hh46 eh45 => ?_)
              have K47 := xk_pl (k := 7) (v := 0) K (xk_wf rfl) xD_66 A44 rfl eh45 rfl
              refine xi_return kc_91_5 mr_91 ?_
              show xw J ov (d + 2) 103 (51, [(0, .ref 0), (1, .int x1), (2, .int x2), (3, .int x3), (4, .int x4)], [], hh46) _
              refine xi_aload_n (pc' := 52) (x := 0) kc_103_51 rfl rfl ?_
              have A48 := ((eh45.2.1 0 (by decide)).trans A41)
              refine xi_getfield (pc' := 55) (v := .ref 1) kc_103_52 rfl rfl rfl A48 rfl ?_
              refine xp_1 K47.1 (fun u49 u50 bu49 bu50 A51 => ?_)
              refine xi_getfield (pc' := 58) (v := .ref 3) kc_103_55 rfl rfl rfl A51 rfl ?_
              refine xi_iload_n (pc' := 59) (x := x1) kc_103_58 rfl rfl ?_
              have A52 := xk_ex K47.1 xD_3
              obtain ⟨pt53, ept53, mpt53⟩ := xR_3 (i := x1) (by omega) (by omega)
              refine xj_aaload (pc' := 60) (b := pt53) kc_103_59 rfl A52 rfl (xi_in (n := 12) (by omega) (by omega)) ept53 ?_
              refine xi_astore (pc' := 62) (lv' := [(5, .ref pt53), (0, .ref 0), (1, .int x1), (2, .int x2), (3, .int x3), (4, .int x4)]) kc_103_60 rfl rfl (xm_lt ml_103 rfl) ?_
              refine xi_aload (pc' := 64) (x := pt53) kc_103_62 rfl rfl ?_
              obtain ⟨u54, u55, u56, u57, pt58, bu54, bu55, bu56, bu57, mpt58, A59⟩ := xg_wall K47.1 mpt53
              refine xi_virtual (mj := 105) (as := []) (st1 := []) (lv0 := [(0, .ref pt53)]) kc_103_64 rfl rfl rfl rfl rfl A59 (Nat.le_of_ble_eq_true rfl) (hJ _ _ _ _ (by decide)) (xm_le ml_105 rfl) rfl ?_
              refine xi_aload_n (pc' := 1) (x := pt53) kc_105_0 rfl rfl ?_
              refine xi_getfield (pc' := 4) (v := .int u54) kc_105_1 rfl rfl rfl A59 rfl ?_
              refine xi_static (mj := 89) (as := [.int u54]) (st1 := []) (lv0 := [(0, .int u54)]) kc_105_4 rfl rfl (Nat.le_of_ble_eq_true rfl) rfl rfl (Nat.le_of_ble_eq_true rfl) (hJ _ _ _ _ (by decide)) (xm_le ml_89 rfl) rfl ?_
              refine xi_iload_n (pc' := 1) (x := u54) kc_89_0 rfl rfl ?_
              by_cases c60 : u54.toInt < 0
              · refine xi_ift (pc' := 14) kc_89_1 rfl (xc_lt_t (X := u54.toInt) (Y := 0) rfl (by decide) (by omega)) ?_
                refine xi_iconst (pc' := 15) (v := 0) kc_89_14 rfl rfl ?_
                refine xi_ireturn kc_89_15 mr_89 rfl ?_
                show xw J ov (d + 1) 105 (7, [(0, .ref pt53)], [.int 0], hh46) _
                refine xi_ireturn kc_105_7 mr_105 rfl ?_
                show xw J ov (d + 2) 103 (67, [(5, .ref pt53), (0, .ref 0), (1, .int x1), (2, .int x2), (3, .int x3), (4, .int x4)], [.int 0], hh46) _
                refine xi_ift (pc' := 74) kc_103_67 rfl rfl ?_
                refine xi_iconst (pc' := 75) (v := 1) kc_103_74 rfl rfl ?_
                refine xi_istore (pc' := 77) (lv' := [(6, .int 1), (5, .ref pt53), (0, .ref 0), (1, .int x1), (2, .int x2), (3, .int x3), (4, .int x4)]) kc_103_75 rfl rfl (xm_lt ml_103 rfl) ?_
                refine xi_aload (pc' := 79) (x := pt53) kc_103_77 rfl rfl ?_
                refine xi_iload_n (pc' := 80) (x := x2) kc_103_79 rfl rfl ?_
                refine xi_putfield (pc' := 83) (fs' := [.int x2, .int u55, .int u56, .int u57, .ref pt58]) kc_103_80 rfl rfl rfl A59 rfl rfl rfl (Nat.le_of_ble_eq_true rfl) rfl (fun hh62 eh61 => ?_)
                obtain ⟨ds63, Dds63, dds63_0, dds63_1, dds63_2, dds63_3⟩ := xGo_wall mpt53
                have K64 := xk_pf (k := 0) (v := x2) K47 (xk_gf mpt53 rfl) Dds63 A59 dds63_0 (by first | omega | decide) (by first | omega | decide) eh61 rfl
                refine xi_aload (pc' := 85) (x := pt53) kc_103_83 rfl rfl ?_
                refine xi_iload_n (pc' := 86) (x := x3) kc_103_85 rfl rfl ?_
                refine xi_putfield (pc' := 89) (fs' := [.int x2, .int x3, .int u56, .int u57, .ref pt58]) kc_103_86 rfl rfl rfl eh61.1 rfl rfl rfl (Nat.le_of_ble_eq_true rfl) rfl (fun hh66 eh65 => ?_)
                obtain ⟨ds67, Dds67, dds67_0, dds67_1, dds67_2, dds67_3⟩ := xGo_wall mpt53
                have K68 := xk_pf (k := 1) (v := x3) K64 (xk_gf mpt53 rfl) Dds67 eh61.1 dds67_1 (by first | omega | decide) (by first | omega | decide) eh65 rfl
                refine xi_aload (pc' := 91) (x := pt53) kc_103_89 rfl rfl ?_
                refine xi_iload (pc' := 93) (x := x4) kc_103_91 rfl rfl ?_
                by_cases c69 : x4.toInt = 0
                · have qx4 : x4 = 0 := xc_of (Eq.trans (by omega) (show (0 : Int) = (0 : Int32).toInt by decide))
                  subst qx4
                  refine xi_putfield (pc' := 96) (fs' := [.int x2, .int x3, .int 0, .int u57, .ref pt58]) kc_103_93 rfl rfl rfl eh65.1 rfl rfl rfl (Nat.le_of_ble_eq_true rfl) rfl (fun hh71 eh70 => ?_)
                  obtain ⟨ds72, Dds72, dds72_0, dds72_1, dds72_2, dds72_3⟩ := xGo_wall mpt53
                  have K73 := xk_pf (k := 2) (v := 0) K68 (xk_gf mpt53 rfl) Dds72 eh65.1 dds72_2 (by first | omega | decide) (by first | omega | decide) eh70 rfl
                  refine xi_iload (pc' := 98) (x := 1) kc_103_96 rfl rfl ?_
                  refine xi_ireturn kc_103_98 mr_103 rfl ?_
                  have zc1 : (1 : Int32).toInt = 1 := by decide
                  exact kk 1 hh71 (by omega) K73
                have qx4 : x4 = 1 := xc_of (Eq.trans (by omega) (show (1 : Int) = (1 : Int32).toInt by decide))
                subst qx4
                refine xi_putfield (pc' := 96) (fs' := [.int x2, .int x3, .int 1, .int u57, .ref pt58]) kc_103_93 rfl rfl rfl eh65.1 rfl rfl rfl (Nat.le_of_ble_eq_true rfl) rfl (fun hh75 eh74 => ?_)
                obtain ⟨ds76, Dds76, dds76_0, dds76_1, dds76_2, dds76_3⟩ := xGo_wall mpt53
                have K77 := xk_pf (k := 2) (v := 1) K68 (xk_gf mpt53 rfl) Dds76 eh65.1 dds76_2 (by first | omega | decide) (by first | omega | decide) eh74 rfl
                refine xi_iload (pc' := 98) (x := 1) kc_103_96 rfl rfl ?_
                refine xi_ireturn kc_103_98 mr_103 rfl ?_
                have zc1 : (1 : Int32).toInt = 1 := by decide
                exact kk 1 hh75 (by omega) K77
              · refine xi_iff (pc' := 4) kc_89_1 rfl (xc_lt_f (X := u54.toInt) (Y := 0) rfl (by decide) (by omega)) ?_
                refine xi_iload_n (pc' := 5) (x := u54) kc_89_4 rfl rfl ?_
                refine xi_bipush (pc' := 7) (v := 6) kc_89_5 rfl rfl ?_
                by_cases c78 : 6 ≤ u54.toInt
                · refine xi_cmt (pc' := 14) kc_89_7 rfl (xc_ge_t (X := u54.toInt) (Y := 6) rfl (by decide) (by omega)) ?_
                  refine xi_iconst (pc' := 15) (v := 0) kc_89_14 rfl rfl ?_
                  refine xi_ireturn kc_89_15 mr_89 rfl ?_
                  show xw J ov (d + 1) 105 (7, [(0, .ref pt53)], [.int 0], hh46) _
                  refine xi_ireturn kc_105_7 mr_105 rfl ?_
                  show xw J ov (d + 2) 103 (67, [(5, .ref pt53), (0, .ref 0), (1, .int x1), (2, .int x2), (3, .int x3), (4, .int x4)], [.int 0], hh46) _
                  refine xi_ift (pc' := 74) kc_103_67 rfl rfl ?_
                  refine xi_iconst (pc' := 75) (v := 1) kc_103_74 rfl rfl ?_
                  refine xi_istore (pc' := 77) (lv' := [(6, .int 1), (5, .ref pt53), (0, .ref 0), (1, .int x1), (2, .int x2), (3, .int x3), (4, .int x4)]) kc_103_75 rfl rfl (xm_lt ml_103 rfl) ?_
                  refine xi_aload (pc' := 79) (x := pt53) kc_103_77 rfl rfl ?_
                  refine xi_iload_n (pc' := 80) (x := x2) kc_103_79 rfl rfl ?_
                  refine xi_putfield (pc' := 83) (fs' := [.int x2, .int u55, .int u56, .int u57, .ref pt58]) kc_103_80 rfl rfl rfl A59 rfl rfl rfl (Nat.le_of_ble_eq_true rfl) rfl (fun hh80 eh79 => ?_)
                  obtain ⟨ds81, Dds81, dds81_0, dds81_1, dds81_2, dds81_3⟩ := xGo_wall mpt53
                  have K82 := xk_pf (k := 0) (v := x2) K47 (xk_gf mpt53 rfl) Dds81 A59 dds81_0 (by first | omega | decide) (by first | omega | decide) eh79 rfl
                  refine xi_aload (pc' := 85) (x := pt53) kc_103_83 rfl rfl ?_
                  refine xi_iload_n (pc' := 86) (x := x3) kc_103_85 rfl rfl ?_
                  refine xi_putfield (pc' := 89) (fs' := [.int x2, .int x3, .int u56, .int u57, .ref pt58]) kc_103_86 rfl rfl rfl eh79.1 rfl rfl rfl (Nat.le_of_ble_eq_true rfl) rfl (fun hh84 eh83 => ?_)
                  obtain ⟨ds85, Dds85, dds85_0, dds85_1, dds85_2, dds85_3⟩ := xGo_wall mpt53
                  have K86 := xk_pf (k := 1) (v := x3) K82 (xk_gf mpt53 rfl) Dds85 eh79.1 dds85_1 (by first | omega | decide) (by first | omega | decide) eh83 rfl
                  refine xi_aload (pc' := 91) (x := pt53) kc_103_89 rfl rfl ?_
                  refine xi_iload (pc' := 93) (x := x4) kc_103_91 rfl rfl ?_
                  by_cases c87 : x4.toInt = 0
                  · have qx4 : x4 = 0 := xc_of (Eq.trans (by omega) (show (0 : Int) = (0 : Int32).toInt by decide))
                    subst qx4
                    refine xi_putfield (pc' := 96) (fs' := [.int x2, .int x3, .int 0, .int u57, .ref pt58]) kc_103_93 rfl rfl rfl eh83.1 rfl rfl rfl (Nat.le_of_ble_eq_true rfl) rfl (fun hh89 eh88 => ?_)
                    obtain ⟨ds90, Dds90, dds90_0, dds90_1, dds90_2, dds90_3⟩ := xGo_wall mpt53
                    have K91 := xk_pf (k := 2) (v := 0) K86 (xk_gf mpt53 rfl) Dds90 eh83.1 dds90_2 (by first | omega | decide) (by first | omega | decide) eh88 rfl
                    refine xi_iload (pc' := 98) (x := 1) kc_103_96 rfl rfl ?_
                    refine xi_ireturn kc_103_98 mr_103 rfl ?_
                    have zc1 : (1 : Int32).toInt = 1 := by decide
                    exact kk 1 hh89 (by omega) K91
                  have qx4 : x4 = 1 := xc_of (Eq.trans (by omega) (show (1 : Int) = (1 : Int32).toInt by decide))
                  subst qx4
                  refine xi_putfield (pc' := 96) (fs' := [.int x2, .int x3, .int 1, .int u57, .ref pt58]) kc_103_93 rfl rfl rfl eh83.1 rfl rfl rfl (Nat.le_of_ble_eq_true rfl) rfl (fun hh93 eh92 => ?_)
                  obtain ⟨ds94, Dds94, dds94_0, dds94_1, dds94_2, dds94_3⟩ := xGo_wall mpt53
                  have K95 := xk_pf (k := 2) (v := 1) K86 (xk_gf mpt53 rfl) Dds94 eh83.1 dds94_2 (by first | omega | decide) (by first | omega | decide) eh92 rfl
                  refine xi_iload (pc' := 98) (x := 1) kc_103_96 rfl rfl ?_
                  refine xi_ireturn kc_103_98 mr_103 rfl ?_
                  have zc1 : (1 : Int32).toInt = 1 := by decide
                  exact kk 1 hh93 (by omega) K95
                · refine xi_cmf (pc' := 10) kc_89_7 rfl (xc_ge_f (X := u54.toInt) (Y := 6) rfl (by decide) (by omega)) ?_
                  refine xi_iconst (pc' := 11) (v := 1) kc_89_10 rfl rfl ?_
                  refine xi_goto (pc' := 15) kc_89_11 rfl ?_
                  refine xi_ireturn kc_89_15 mr_89 rfl ?_
                  show xw J ov (d + 1) 105 (7, [(0, .ref pt53)], [.int 1], hh46) _
                  refine xi_ireturn kc_105_7 mr_105 rfl ?_
                  show xw J ov (d + 2) 103 (67, [(5, .ref pt53), (0, .ref 0), (1, .int x1), (2, .int x2), (3, .int x3), (4, .int x4)], [.int 1], hh46) _
                  refine xi_iff (pc' := 70) kc_103_67 rfl rfl ?_
                  refine xi_iconst (pc' := 71) (v := 0) kc_103_70 rfl rfl ?_
                  refine xi_goto (pc' := 75) kc_103_71 rfl ?_
                  refine xi_istore (pc' := 77) (lv' := [(6, .int 0), (5, .ref pt53), (0, .ref 0), (1, .int x1), (2, .int x2), (3, .int x3), (4, .int x4)]) kc_103_75 rfl rfl (xm_lt ml_103 rfl) ?_
                  refine xi_aload (pc' := 79) (x := pt53) kc_103_77 rfl rfl ?_
                  refine xi_iload_n (pc' := 80) (x := x2) kc_103_79 rfl rfl ?_
                  refine xi_putfield (pc' := 83) (fs' := [.int x2, .int u55, .int u56, .int u57, .ref pt58]) kc_103_80 rfl rfl rfl A59 rfl rfl rfl (Nat.le_of_ble_eq_true rfl) rfl (fun hh97 eh96 => ?_)
                  obtain ⟨ds98, Dds98, dds98_0, dds98_1, dds98_2, dds98_3⟩ := xGo_wall mpt53
                  have K99 := xk_pf (k := 0) (v := x2) K47 (xk_gf mpt53 rfl) Dds98 A59 dds98_0 (by first | omega | decide) (by first | omega | decide) eh96 rfl
                  refine xi_aload (pc' := 85) (x := pt53) kc_103_83 rfl rfl ?_
                  refine xi_iload_n (pc' := 86) (x := x3) kc_103_85 rfl rfl ?_
                  refine xi_putfield (pc' := 89) (fs' := [.int x2, .int x3, .int u56, .int u57, .ref pt58]) kc_103_86 rfl rfl rfl eh96.1 rfl rfl rfl (Nat.le_of_ble_eq_true rfl) rfl (fun hh101 eh100 => ?_)
                  obtain ⟨ds102, Dds102, dds102_0, dds102_1, dds102_2, dds102_3⟩ := xGo_wall mpt53
                  have K103 := xk_pf (k := 1) (v := x3) K99 (xk_gf mpt53 rfl) Dds102 eh96.1 dds102_1 (by first | omega | decide) (by first | omega | decide) eh100 rfl
                  refine xi_aload (pc' := 91) (x := pt53) kc_103_89 rfl rfl ?_
                  refine xi_iload (pc' := 93) (x := x4) kc_103_91 rfl rfl ?_
                  by_cases c104 : x4.toInt = 0
                  · have qx4 : x4 = 0 := xc_of (Eq.trans (by omega) (show (0 : Int) = (0 : Int32).toInt by decide))
                    subst qx4
                    refine xi_putfield (pc' := 96) (fs' := [.int x2, .int x3, .int 0, .int u57, .ref pt58]) kc_103_93 rfl rfl rfl eh100.1 rfl rfl rfl (Nat.le_of_ble_eq_true rfl) rfl (fun hh106 eh105 => ?_)
                    obtain ⟨ds107, Dds107, dds107_0, dds107_1, dds107_2, dds107_3⟩ := xGo_wall mpt53
                    have K108 := xk_pf (k := 2) (v := 0) K103 (xk_gf mpt53 rfl) Dds107 eh100.1 dds107_2 (by first | omega | decide) (by first | omega | decide) eh105 rfl
                    refine xi_iload (pc' := 98) (x := 0) kc_103_96 rfl rfl ?_
                    refine xi_ireturn kc_103_98 mr_103 rfl ?_
                    have zc0 : (0 : Int32).toInt = 0 := by decide
                    exact kk 0 hh106 (by omega) K108
                  have qx4 : x4 = 1 := xc_of (Eq.trans (by omega) (show (1 : Int) = (1 : Int32).toInt by decide))
                  subst qx4
                  refine xi_putfield (pc' := 96) (fs' := [.int x2, .int x3, .int 1, .int u57, .ref pt58]) kc_103_93 rfl rfl rfl eh100.1 rfl rfl rfl (Nat.le_of_ble_eq_true rfl) rfl (fun hh110 eh109 => ?_)
                  obtain ⟨ds111, Dds111, dds111_0, dds111_1, dds111_2, dds111_3⟩ := xGo_wall mpt53
                  have K112 := xk_pf (k := 2) (v := 1) K103 (xk_gf mpt53 rfl) Dds111 eh100.1 dds111_2 (by first | omega | decide) (by first | omega | decide) eh109 rfl
                  refine xi_iload (pc' := 98) (x := 0) kc_103_96 rfl rfl ?_
                  refine xi_ireturn kc_103_98 mr_103 rfl ?_
                  have zc0 : (0 : Int32).toInt = 0 := by decide
                  exact kk 0 hh110 (by omega) K112
            · refine xi_cmf (pc' := 37) kc_103_34 rfl (xc_le_f (X := x3.toInt) (Y := 100) rfl (by decide) (by omega)) ?_
              refine xi_aload_n (pc' := 38) (x := 0) kc_103_37 rfl rfl ?_
              refine xi_bipush (pc' := 40) (v := (-6)) kc_103_38 rfl rfl ?_
              refine xp_0 K.1 (fun u113 u114 bu113 bu114 A115 => ?_)
              refine xi_virtual (mj := 90) (as := [.int (-6)]) (st1 := []) (lv0 := [(0, .ref 0), (1, .int (-6))]) kc_103_40 rfl rfl rfl rfl rfl A115 (Nat.le_of_ble_eq_true rfl) (hJ _ _ _ _ (by decide)) (xm_le ml_90 rfl) rfl ?_
              refine xi_iload_n (pc' := 1) (x := (-6)) kc_90_0 rfl rfl ?_
              refine xi_ineg (pc' := 2) (v := 6) kc_90_1 rfl rfl ?_
              refine xi_istore_n (pc' := 3) (lv' := [(2, .int 6), (0, .ref 0), (1, .int (-6))]) kc_90_2 rfl rfl (xm_lt ml_90 rfl) ?_
              refine xi_iload_n (pc' := 4) (x := 6) kc_90_3 rfl rfl ?_
              refine xi_iff (pc' := 7) kc_90_4 rfl rfl ?_
              refine xi_iload_n (pc' := 8) (x := 6) kc_90_7 rfl rfl ?_
              refine xi_aload_n (pc' := 9) (x := 0) kc_90_8 rfl rfl ?_
              refine xi_getfield (pc' := 12) (v := .ref 94) kc_90_9 rfl rfl rfl A115 rfl ?_
              refine xcps4 (xk_arr K.1 xD_94) (fun y116 A116 hy116 ry116 => ?_)
              refine xi_arraylength (pc' := 13) (n := 7) (v := 7) kc_90_12 rfl (xl_lenI (by decide) (by decide) A116 hy116) rfl ?_
              refine xi_cmf (pc' := 16) kc_90_13 rfl rfl ?_
              refine xi_aload_n (pc' := 17) (x := 0) kc_90_16 rfl rfl ?_
              refine xi_getfield (pc' := 20) (v := .ref 94) kc_90_17 rfl rfl rfl A115 rfl ?_
              refine xi_iload_n (pc' := 21) (x := 6) kc_90_20 rfl rfl ?_
              refine xi_dup2 (pc' := 22) kc_90_21 rfl ⟨rfl, rfl⟩ ?_
              refine xcps4 (xj_get hy116 ry116 (i := 6) (by decide) (by decide)) (fun v117 ev117 bv117 dv117 => ?_)
              refine xi_iaload (pc' := 23) (v := v117) kc_90_22 rfl A116 (by decide) rfl (xi_in (by decide) (by rw [hy116]; decide)) ev117 ?_
              refine xi_iconst (pc' := 24) (v := 1) kc_90_23 rfl rfl ?_
              refine xcps2 (α := Int32) ((v117 : Int32) + 1) (fun v118 ev118 => ?_)
              have rv118 := xc_rng v118
              refine xi_iadd (pc' := 25) (v := v118) kc_90_24 rfl ev118 ?_
              refine xcps4 (xj_set (v := v118) hy116 ry116 6 (by first | omega | decide) (by first | omega | decide)) (fun y119 s119 hy119 ry119 => ?_)
              refine xi_iastore (pc' := 26) (x' := y119) kc_90_25 rfl A116 rfl (xi_in (by decide) (by rw [hy116]; decide)) s119 (fun hh119 eh119 => ?_)
              have K120 := xk_pa K (xk_wa rfl) xD_94 hy119 ry119 eh119
              refine xi_iload_n (pc' := 27) (x := (-6)) kc_90_26 rfl rfl ?_
              refine xi_ireturn kc_90_27 mr_90 rfl ?_
              show xw J ov (d + 2) 103 (43, [(0, .ref 0), (1, .int x1), (2, .int x2), (3, .int x3), (4, .int x4)], [.int (-6)], hh119) _
              refine xi_ireturn kc_103_43 mr_103 rfl ?_
              have zcm6 : ((-6) : Int32).toInt = (-6) := by decide
              exact kk (-6) hh119 (by omega) K120
          · refine xi_iff (pc' := 24) kc_103_21 rfl (xc_ge_f (X := x3.toInt) (Y := 0) rfl (by decide) (by omega)) ?_
            refine xi_aload_n (pc' := 25) (x := 0) kc_103_24 rfl rfl ?_
            refine xi_bipush (pc' := 27) (v := (-4)) kc_103_25 rfl rfl ?_
            refine xp_0 K.1 (fun u121 u122 bu121 bu122 A123 => ?_)
            refine xi_virtual (mj := 90) (as := [.int (-4)]) (st1 := []) (lv0 := [(0, .ref 0), (1, .int (-4))]) kc_103_27 rfl rfl rfl rfl rfl A123 (Nat.le_of_ble_eq_true rfl) (hJ _ _ _ _ (by decide)) (xm_le ml_90 rfl) rfl ?_
            refine xi_iload_n (pc' := 1) (x := (-4)) kc_90_0 rfl rfl ?_
            refine xi_ineg (pc' := 2) (v := 4) kc_90_1 rfl rfl ?_
            refine xi_istore_n (pc' := 3) (lv' := [(2, .int 4), (0, .ref 0), (1, .int (-4))]) kc_90_2 rfl rfl (xm_lt ml_90 rfl) ?_
            refine xi_iload_n (pc' := 4) (x := 4) kc_90_3 rfl rfl ?_
            refine xi_iff (pc' := 7) kc_90_4 rfl rfl ?_
            refine xi_iload_n (pc' := 8) (x := 4) kc_90_7 rfl rfl ?_
            refine xi_aload_n (pc' := 9) (x := 0) kc_90_8 rfl rfl ?_
            refine xi_getfield (pc' := 12) (v := .ref 94) kc_90_9 rfl rfl rfl A123 rfl ?_
            refine xcps4 (xk_arr K.1 xD_94) (fun y124 A124 hy124 ry124 => ?_)
            refine xi_arraylength (pc' := 13) (n := 7) (v := 7) kc_90_12 rfl (xl_lenI (by decide) (by decide) A124 hy124) rfl ?_
            refine xi_cmf (pc' := 16) kc_90_13 rfl rfl ?_
            refine xi_aload_n (pc' := 17) (x := 0) kc_90_16 rfl rfl ?_
            refine xi_getfield (pc' := 20) (v := .ref 94) kc_90_17 rfl rfl rfl A123 rfl ?_
            refine xi_iload_n (pc' := 21) (x := 4) kc_90_20 rfl rfl ?_
            refine xi_dup2 (pc' := 22) kc_90_21 rfl ⟨rfl, rfl⟩ ?_
            refine xcps4 (xj_get hy124 ry124 (i := 4) (by decide) (by decide)) (fun v125 ev125 bv125 dv125 => ?_)
            refine xi_iaload (pc' := 23) (v := v125) kc_90_22 rfl A124 (by decide) rfl (xi_in (by decide) (by rw [hy124]; decide)) ev125 ?_
            refine xi_iconst (pc' := 24) (v := 1) kc_90_23 rfl rfl ?_
            refine xcps2 (α := Int32) ((v125 : Int32) + 1) (fun v126 ev126 => ?_)
            have rv126 := xc_rng v126
            refine xi_iadd (pc' := 25) (v := v126) kc_90_24 rfl ev126 ?_
            refine xcps4 (xj_set (v := v126) hy124 ry124 4 (by first | omega | decide) (by first | omega | decide)) (fun y127 s127 hy127 ry127 => ?_)
            refine xi_iastore (pc' := 26) (x' := y127) kc_90_25 rfl A124 rfl (xi_in (by decide) (by rw [hy124]; decide)) s127 (fun hh127 eh127 => ?_)
            have K128 := xk_pa K (xk_wa rfl) xD_94 hy127 ry127 eh127
            refine xi_iload_n (pc' := 27) (x := (-4)) kc_90_26 rfl rfl ?_
            refine xi_ireturn kc_90_27 mr_90 rfl ?_
            show xw J ov (d + 2) 103 (30, [(0, .ref 0), (1, .int x1), (2, .int x2), (3, .int x3), (4, .int x4)], [.int (-4)], hh127) _
            refine xi_ireturn kc_103_30 mr_103 rfl ?_
            have zcm4 : ((-4) : Int32).toInt = (-4) := by decide
            exact kk (-4) hh127 (by omega) K128
set_option maxHeartbeats 4000000 in
theorem mt_109_0 {J : xe_J} {ov : List (List Int32)} (hJ : ∀ d mj as h, mj ≠ xe_loff → J d mj as h = none) (hov1 : ov[1]? = some [10, 0, 0, 0, 0, 0]) (hov2 : ov[2]? = some [99, 30, 50, 50, 1, 99999]) {d : Nat} {Q : Option Value → xe_H → Prop} {h : xe_H} {p0 : Nat} {x1 : Int32} (T : xt h) (m0 : List.elem p0 xG_wall = true) (kk : (∀ (r : Int32) (h' : xe_H), (0 ≤ r.toInt ∧ r.toInt ≤ 21474837) → xk [(0, 9), (115, 1), (83, 0), (29, 0), (31, 0), (33, 0), (35, 0), (37, 0), (39, 0), (41, 0), (43, 0), (45, 0), (47, 0), (49, 0), (51, 0), (125, 0), (66, 8), (115, 18), (71, 0), (132, 0)] h h' → Q (some (.int r)) h')) : xw J ov (d + 1) 109 (0, [(0, .ref p0), (1, .int x1)], [], h) Q := by
  have K : xk [(0, 9), (115, 1), (83, 0), (29, 0), (31, 0), (33, 0), (35, 0), (37, 0), (39, 0), (41, 0), (43, 0), (45, 0), (47, 0), (49, 0), (51, 0), (125, 0), (66, 8), (115, 18), (71, 0), (132, 0)] h h := xk_re T
  have rx1 := xc_rng x1
  refine xi_iload_n (pc' := 1) (x := x1) kc_109_0 rfl rfl ?_
  refine xi_aload_n (pc' := 2) (x := p0) kc_109_1 rfl rfl ?_
  obtain ⟨u1, u2, u3, u4, pt5, bu1, bu2, bu3, bu4, mpt5, A6⟩ := xg_wall K.1 m0
  refine xi_getfield (pc' := 5) (v := .int u2) kc_109_2 rfl rfl rfl A6 rfl ?_
  refine xcps2 (α := Int32) ((x1 : Int32) * u2) (fun v7 ev7 => ?_)
  have rv7 := xc_rng v7
  refine xi_imul (pc' := 6) (v := v7) kc_109_5 rfl ev7 ?_
  refine xi_bipush (pc' := 8) (v := 100) kc_109_6 rfl rfl ?_
  refine xcps2 (α := Int32) (v7 / 100) (fun v8 ev8 => ?_)
  have dv8 : 100 * v8.toInt ≤ v7.toInt + 99 ∧ v7.toInt ≤ 100 * v8.toInt + 99 := by rw [← ev8]; exact xz_div (X := v7.toInt) (Y := 100) rfl (by decide) (by decide)
  have bv8 : -21474837 ≤ v8.toInt ∧ v8.toInt ≤ 21474837 := by omega
  refine xi_idiv (pc' := 9) (v := v8) kc_109_8 rfl ev8 (by decide) ?_
  refine xi_istore_n (pc' := 10) (lv' := [(2, .int v8), (0, .ref p0), (1, .int x1)]) kc_109_9 rfl rfl (xm_lt ml_109 rfl) ?_
  refine xi_iload_n (pc' := 11) (x := v8) kc_109_10 rfl rfl ?_
  by_cases c9 : 0 ≤ v8.toInt
  · refine xi_ift (pc' := 18) kc_109_11 rfl (xc_ge_t (X := v8.toInt) (Y := 0) rfl (by decide) (by omega)) ?_
    refine xi_iload_n (pc' := 19) (x := v8) kc_109_18 rfl rfl ?_
    refine xi_ireturn kc_109_19 mr_109 rfl ?_
    exact kk v8 h (by omega) K
  · refine xi_iff (pc' := 14) kc_109_11 rfl (xc_ge_f (X := v8.toInt) (Y := 0) rfl (by decide) (by omega)) ?_
    refine xi_iconst (pc' := 15) (v := 0) kc_109_14 rfl rfl ?_
    refine xi_goto (pc' := 19) kc_109_15 rfl ?_
    refine xi_ireturn kc_109_19 mr_109 rfl ?_
    have zc0 : (0 : Int32).toInt = 0 := by decide
    exact kk 0 h (by omega) K
set_option maxHeartbeats 4000000 in
theorem mt_107_0 {J : xe_J} {ov : List (List Int32)} (hJ : ∀ d mj as h, mj ≠ xe_loff → J d mj as h = none) (hov1 : ov[1]? = some [10, 0, 0, 0, 0, 0]) (hov2 : ov[2]? = some [99, 30, 50, 50, 1, 99999]) {d : Nat} {Q : Option Value → xe_H → Prop} {h : xe_H} {x1 : Int32} {x2 : Int32} (T : xt h) (b1 : (0 ≤ x1.toInt ∧ x1.toInt ≤ 11)) (b2 : (0 ≤ x2.toInt ∧ x2.toInt ≤ 600)) (kk : (∀ (r : Int32) (h' : xe_H), (0 ≤ r.toInt ∧ r.toInt ≤ 21474837) → xk [(0, 9), (115, 1), (83, 0), (29, 0), (31, 0), (33, 0), (35, 0), (37, 0), (39, 0), (41, 0), (43, 0), (45, 0), (47, 0), (49, 0), (51, 0), (125, 0), (66, 8), (115, 18), (71, 0), (132, 0)] h h' → Q (some (.int r)) h')) : xw J ov (d + 3) 107 (0, [(0, .ref 1), (1, .int x1), (2, .int x2)], [], h) Q := by
  have K : xk [(0, 9), (115, 1), (83, 0), (29, 0), (31, 0), (33, 0), (35, 0), (37, 0), (39, 0), (41, 0), (43, 0), (45, 0), (47, 0), (49, 0), (51, 0), (125, 0), (66, 8), (115, 18), (71, 0), (132, 0)] h h := xk_re T
  refine xi_aload_n (pc' := 1) (x := 1) kc_107_0 rfl rfl ?_
  refine xi_iload_n (pc' := 2) (x := x1) kc_107_1 rfl rfl ?_
  refine xp_1 K.1 (fun u1 u2 bu1 bu2 A3 => ?_)
  refine xi_virtual (mj := 108) (as := [.int x1]) (st1 := []) (lv0 := [(0, .ref 1), (1, .int x1)]) kc_107_2 rfl rfl rfl rfl rfl A3 (Nat.le_of_ble_eq_true rfl) (hJ _ _ _ _ (by decide)) (xm_le ml_108 rfl) rfl ?_
  refine xi_iload_n (pc' := 1) (x := x1) kc_108_0 rfl rfl ?_
  refine xi_static (mj := 104) (as := [.int x1]) (st1 := []) (lv0 := [(0, .int x1)]) kc_108_1 rfl rfl (Nat.le_of_ble_eq_true rfl) rfl rfl (Nat.le_of_ble_eq_true rfl) (hJ _ _ _ _ (by decide)) (xm_le ml_104 rfl) rfl ?_
  refine xi_iload_n (pc' := 1) (x := x1) kc_104_0 rfl rfl ?_
  refine xi_iff (pc' := 4) kc_104_1 rfl (xc_lt_f (X := x1.toInt) (Y := 0) rfl (by decide) (by omega)) ?_
  refine xi_iload_n (pc' := 5) (x := x1) kc_104_4 rfl rfl ?_
  refine xi_bipush (pc' := 7) (v := 12) kc_104_5 rfl rfl ?_
  refine xi_cmf (pc' := 10) kc_104_7 rfl (xc_ge_f (X := x1.toInt) (Y := 12) rfl (by decide) (by omega)) ?_
  refine xi_iconst (pc' := 11) (v := 1) kc_104_10 rfl rfl ?_
  refine xi_goto (pc' := 15) kc_104_11 rfl ?_
  refine xi_ireturn kc_104_15 mr_104 rfl ?_
  show xw J ov (d + 2) 108 (4, [(0, .ref 1), (1, .int x1)], [.int 1], h) _
  refine xi_iff (pc' := 7) kc_108_4 rfl rfl ?_
  refine xi_aload_n (pc' := 8) (x := 1) kc_108_7 rfl rfl ?_
  refine xi_getfield (pc' := 11) (v := .ref 3) kc_108_8 rfl rfl rfl A3 rfl ?_
  refine xi_iload_n (pc' := 12) (x := x1) kc_108_11 rfl rfl ?_
  have A4 := xk_ex K.1 xD_3
  obtain ⟨pt5, ept5, mpt5⟩ := xR_3 (i := x1) (by omega) (by omega)
  refine xj_aaload (pc' := 13) (b := pt5) kc_108_12 rfl A4 rfl (xi_in (n := 12) (by omega) (by omega)) ept5 ?_
  obtain ⟨u6, u7, u8, u9, pt10, bu6, bu7, bu8, bu9, mpt10, A11⟩ := xg_wall K.1 mpt5
  refine xi_virtual (mj := 105) (as := []) (st1 := []) (lv0 := [(0, .ref pt5)]) kc_108_13 rfl rfl rfl rfl rfl A11 (Nat.le_of_ble_eq_true rfl) (hJ _ _ _ _ (by decide)) (xm_le ml_105 rfl) rfl ?_
  refine xi_aload_n (pc' := 1) (x := pt5) kc_105_0 rfl rfl ?_
  refine xi_getfield (pc' := 4) (v := .int u6) kc_105_1 rfl rfl rfl A11 rfl ?_
  refine xi_static (mj := 89) (as := [.int u6]) (st1 := []) (lv0 := [(0, .int u6)]) kc_105_4 rfl rfl (Nat.le_of_ble_eq_true rfl) rfl rfl (Nat.le_of_ble_eq_true rfl) (hJ _ _ _ _ (by decide)) (xm_le ml_89 rfl) rfl ?_
  refine xi_iload_n (pc' := 1) (x := u6) kc_89_0 rfl rfl ?_
  by_cases c12 : u6.toInt < 0
  · refine xi_ift (pc' := 14) kc_89_1 rfl (xc_lt_t (X := u6.toInt) (Y := 0) rfl (by decide) (by omega)) ?_
    refine xi_iconst (pc' := 15) (v := 0) kc_89_14 rfl rfl ?_
    refine xi_ireturn kc_89_15 mr_89 rfl ?_
    show xw J ov (d + 1) 105 (7, [(0, .ref pt5)], [.int 0], h) _
    refine xi_ireturn kc_105_7 mr_105 rfl ?_
    show xw J ov (d + 2) 108 (16, [(0, .ref 1), (1, .int x1)], [.int 0], h) _
    refine xi_ift (pc' := 23) kc_108_16 rfl rfl ?_
    refine xi_iconst (pc' := 24) (v := 0) kc_108_23 rfl rfl ?_
    refine xi_ireturn kc_108_24 mr_108 rfl ?_
    show xw J ov (d + 3) 107 (5, [(0, .ref 1), (1, .int x1), (2, .int x2)], [.int 0], h) _
    refine xi_iff (pc' := 8) kc_107_5 rfl rfl ?_
    refine xi_iconst (pc' := 9) (v := 0) kc_107_8 rfl rfl ?_
    refine xi_ireturn kc_107_9 mr_107 rfl ?_
    have zc0 : (0 : Int32).toInt = 0 := by decide
    exact kk 0 h (by omega) K
  · refine xi_iff (pc' := 4) kc_89_1 rfl (xc_lt_f (X := u6.toInt) (Y := 0) rfl (by decide) (by omega)) ?_
    refine xi_iload_n (pc' := 5) (x := u6) kc_89_4 rfl rfl ?_
    refine xi_bipush (pc' := 7) (v := 6) kc_89_5 rfl rfl ?_
    by_cases c13 : 6 ≤ u6.toInt
    · refine xi_cmt (pc' := 14) kc_89_7 rfl (xc_ge_t (X := u6.toInt) (Y := 6) rfl (by decide) (by omega)) ?_
      refine xi_iconst (pc' := 15) (v := 0) kc_89_14 rfl rfl ?_
      refine xi_ireturn kc_89_15 mr_89 rfl ?_
      show xw J ov (d + 1) 105 (7, [(0, .ref pt5)], [.int 0], h) _
      refine xi_ireturn kc_105_7 mr_105 rfl ?_
      show xw J ov (d + 2) 108 (16, [(0, .ref 1), (1, .int x1)], [.int 0], h) _
      refine xi_ift (pc' := 23) kc_108_16 rfl rfl ?_
      refine xi_iconst (pc' := 24) (v := 0) kc_108_23 rfl rfl ?_
      refine xi_ireturn kc_108_24 mr_108 rfl ?_
      show xw J ov (d + 3) 107 (5, [(0, .ref 1), (1, .int x1), (2, .int x2)], [.int 0], h) _
      refine xi_iff (pc' := 8) kc_107_5 rfl rfl ?_
      refine xi_iconst (pc' := 9) (v := 0) kc_107_8 rfl rfl ?_
      refine xi_ireturn kc_107_9 mr_107 rfl ?_
      have zc0 : (0 : Int32).toInt = 0 := by decide
      exact kk 0 h (by omega) K
    · refine xi_cmf (pc' := 10) kc_89_7 rfl (xc_ge_f (X := u6.toInt) (Y := 6) rfl (by decide) (by omega)) ?_
      refine xi_iconst (pc' := 11) (v := 1) kc_89_10 rfl rfl ?_
      refine xi_goto (pc' := 15) kc_89_11 rfl ?_
      refine xi_ireturn kc_89_15 mr_89 rfl ?_
      show xw J ov (d + 1) 105 (7, [(0, .ref pt5)], [.int 1], h) _
      refine xi_ireturn kc_105_7 mr_105 rfl ?_
      show xw J ov (d + 2) 108 (16, [(0, .ref 1), (1, .int x1)], [.int 1], h) _
      refine xi_iff (pc' := 19) kc_108_16 rfl rfl ?_
      refine xi_iconst (pc' := 20) (v := 1) kc_108_19 rfl rfl ?_
      refine xi_goto (pc' := 24) kc_108_20 rfl ?_
      refine xi_ireturn kc_108_24 mr_108 rfl ?_
      show xw J ov (d + 3) 107 (5, [(0, .ref 1), (1, .int x1), (2, .int x2)], [.int 1], h) _
      refine xi_ift (pc' := 10) kc_107_5 rfl rfl ?_
      refine xi_aload_n (pc' := 11) (x := 1) kc_107_10 rfl rfl ?_
      refine xi_getfield (pc' := 14) (v := .ref 2) kc_107_11 rfl rfl rfl A3 rfl ?_
      refine xi_aload_n (pc' := 15) (x := 1) kc_107_14 rfl rfl ?_
      refine xi_getfield (pc' := 18) (v := .ref 3) kc_107_15 rfl rfl rfl A3 rfl ?_
      refine xi_iload_n (pc' := 19) (x := x1) kc_107_18 rfl rfl ?_
      refine xj_aaload (pc' := 20) (b := pt5) kc_107_19 rfl A4 rfl (xi_in (n := 12) (by omega) (by omega)) ept5 ?_
      refine xi_getfield (pc' := 23) (v := .int u6) kc_107_20 rfl rfl rfl A11 rfl ?_
      have A14 := xk_ex K.1 xD_2
      obtain ⟨pt15, ept15, mpt15⟩ := xR_2 (i := u6) (by omega) (by omega)
      refine xj_aaload (pc' := 24) (b := pt15) kc_107_23 rfl A14 rfl (xi_in (n := 6) (by omega) (by omega)) ept15 ?_
      obtain ⟨pt16, pt17, mpt16, mpt17, A18⟩ := xg_room K.1 mpt15
      refine xi_getfield (pc' := 27) (v := .ref pt16) kc_107_24 rfl rfl rfl A18 rfl ?_
      refine xi_iconst (pc' := 28) (v := 1) kc_107_27 rfl rfl ?_
      refine xcps4 (xk_arr K.1 (xGD_room0 mpt16)) (fun y19 A19 hy19 ry19 => ?_)
      refine xcps4 (xj_get hy19 ry19 (i := 1) (by decide) (by decide)) (fun v20 ev20 bv20 dv20 => ?_)
      refine xi_iaload (pc' := 29) (v := v20) kc_107_28 rfl A19 (xk_lo mpt16 rfl) rfl (xi_in (by decide) (by rw [hy19]; decide)) ev20 ?_
      refine xi_istore_n (pc' := 30) (lv' := [(3, .int v20), (0, .ref 1), (1, .int x1), (2, .int x2)]) kc_107_29 rfl rfl (xm_lt ml_107 rfl) ?_
      refine xi_aload_n (pc' := 31) (x := 1) kc_107_30 rfl rfl ?_
      refine xi_getfield (pc' := 34) (v := .ref 3) kc_107_31 rfl rfl rfl A3 rfl ?_
      refine xi_iload_n (pc' := 35) (x := x1) kc_107_34 rfl rfl ?_
      refine xj_aaload (pc' := 36) (b := pt5) kc_107_35 rfl A4 rfl (xi_in (n := 12) (by omega) (by omega)) ept5 ?_
      refine xi_iload_n (pc' := 37) (x := v20) kc_107_36 rfl rfl ?_
      refine xi_aload_n (pc' := 38) (x := 1) kc_107_37 rfl rfl ?_
      refine xi_getfield (pc' := 41) (v := .ref 5) kc_107_38 rfl rfl rfl A3 rfl ?_
      refine xi_iload_n (pc' := 42) (x := x2) kc_107_41 rfl rfl ?_
      refine xp_5 K.1 (fun u21 bu21 A22 => ?_)
      refine xi_virtual (mj := 99) (as := [.int x2]) (st1 := [.int v20, .ref pt5]) (lv0 := [(0, .ref 5), (1, .int x2)]) kc_107_42 rfl rfl rfl rfl rfl A22 (Nat.le_of_ble_eq_true rfl) (hJ _ _ _ _ (by decide)) (xm_le ml_99 rfl) rfl ?_
      refine xi_iload_n (pc' := 1) (x := x2) kc_99_0 rfl rfl ?_
      refine xi_iff (pc' := 4) kc_99_1 rfl (xc_lt_f (X := x2.toInt) (Y := 0) rfl (by decide) (by omega)) ?_
      refine xi_iload_n (pc' := 5) (x := x2) kc_99_4 rfl rfl ?_
      refine xi_aload_n (pc' := 6) (x := 5) kc_99_5 rfl rfl ?_
      refine xi_getfield (pc' := 9) (v := .ref 7) kc_99_6 rfl rfl rfl A22 rfl ?_
      refine xcps4 (xk_arr K.1 xD_7) (fun y23 A23 hy23 ry23 => ?_)
      refine xi_arraylength (pc' := 10) (n := 601) (v := 601) kc_99_9 rfl (xl_lenI (by decide) (by decide) A23 hy23) rfl ?_
      refine xi_cmt (pc' := 20) kc_99_10 rfl (xc_lt_t (X := x2.toInt) (Y := 601) rfl (by decide) (by omega)) ?_
      refine xi_aload_n (pc' := 21) (x := 5) kc_99_20 rfl rfl ?_
      refine xi_getfield (pc' := 24) (v := .ref 7) kc_99_21 rfl rfl rfl A22 rfl ?_
      refine xi_iload_n (pc' := 25) (x := x2) kc_99_24 rfl rfl ?_
      refine xcps4 (xj_get hy23 ry23 (i := x2) (by omega) (by omega)) (fun v24 ev24 bv24 dv24 => ?_)
      refine xi_iaload (pc' := 26) (v := v24) kc_99_25 rfl A23 (by decide) rfl (xi_in (by omega) (by rw [hy23]; omega)) ev24 ?_
      refine xi_ireturn kc_99_26 mr_99 rfl ?_
      show xw J ov (d + 3) 107 (45, [(3, .int v20), (0, .ref 1), (1, .int x1), (2, .int x2)], [.int v24, .int v20, .ref pt5], h) _
      refine xcps2 (α := Int32) ((v20 : Int32) - v24) (fun v25 ev25 => ?_)
      have rv25 := xc_rng v25
      refine xi_isub (pc' := 46) (v := v25) kc_107_45 rfl ev25 ?_
      refine xi_virtual (mj := 109) (as := [.int v25]) (st1 := []) (lv0 := [(0, .ref pt5), (1, .int v25)]) kc_107_46 rfl rfl rfl rfl rfl A11 (Nat.le_of_ble_eq_true rfl) (hJ _ _ _ _ (by decide)) (xm_le ml_109 rfl) rfl ?_
      refine mt_109_0 hJ hov1 hov2 (d := d + 1) (p0 := pt5) (x1 := v25) K.1 mpt5 (fun r26 hh27 br26 K28 => ?_)
      have K29 := xk_tr K K28 rfl
      show xw J ov (d + 3) 107 (49, [(3, .int v20), (0, .ref 1), (1, .int x1), (2, .int x2)], [.int r26], hh27) _
      refine xi_ireturn kc_107_49 mr_107 rfl ?_
      exact kk r26 hh27 (by omega) K29
set_option maxHeartbeats 4000000 in
theorem mt_106_0 {J : xe_J} {ov : List (List Int32)} (hJ : ∀ d mj as h, mj ≠ xe_loff → J d mj as h = none) (hov1 : ov[1]? = some [10, 0, 0, 0, 0, 0]) (hov2 : ov[2]? = some [99, 30, 50, 50, 1, 99999]) {d : Nat} {Q : Option Value → xe_H → Prop} {h : xe_H} {x1 : Int32} {x2 : Int32} (T : xt h) (kk : (∀ (r : Int32) (h' : xe_H), xk [(0, 9), (115, 1), (83, 0), (29, 0), (31, 0), (33, 0), (35, 0), (37, 0), (39, 0), (41, 0), (43, 0), (45, 0), (47, 0), (49, 0), (51, 0), (125, 0), (66, 8), (115, 18), (71, 0), (132, 0)] h h' → Q (some (.int r)) h')) : xw J ov (d + 4) 106 (0, [(0, .ref 0), (1, .int x1), (2, .int x2)], [], h) Q := by
  have K : xk [(0, 9), (115, 1), (83, 0), (29, 0), (31, 0), (33, 0), (35, 0), (37, 0), (39, 0), (41, 0), (43, 0), (45, 0), (47, 0), (49, 0), (51, 0), (125, 0), (66, 8), (115, 18), (71, 0), (132, 0)] h h := xk_re T
  have rx1 := xc_rng x1
  have rx2 := xc_rng x2
  refine xi_iload_n (pc' := 1) (x := x1) kc_106_0 rfl rfl ?_
  refine xi_static (mj := 104) (as := [.int x1]) (st1 := []) (lv0 := [(0, .int x1)]) kc_106_1 rfl rfl (Nat.le_of_ble_eq_true rfl) rfl rfl (Nat.le_of_ble_eq_true rfl) (hJ _ _ _ _ (by decide)) (xm_le ml_104 rfl) rfl ?_
  refine xi_iload_n (pc' := 1) (x := x1) kc_104_0 rfl rfl ?_
  by_cases c1 : x1.toInt < 0
  · refine xi_ift (pc' := 14) kc_104_1 rfl (xc_lt_t (X := x1.toInt) (Y := 0) rfl (by decide) (by omega)) ?_
    refine xi_iconst (pc' := 15) (v := 0) kc_104_14 rfl rfl ?_
    refine xi_ireturn kc_104_15 mr_104 rfl ?_
    show xw J ov (d + 4) 106 (4, [(0, .ref 0), (1, .int x1), (2, .int x2)], [.int 0], h) _
    refine xi_iff (pc' := 7) kc_106_4 rfl rfl ?_
    refine xi_aload_n (pc' := 8) (x := 0) kc_106_7 rfl rfl ?_
    refine xi_iconst (pc' := 9) (v := (-1)) kc_106_8 rfl rfl ?_
    refine xp_0 K.1 (fun u2 u3 bu2 bu3 A4 => ?_)
    refine xi_virtual (mj := 90) (as := [.int (-1)]) (st1 := []) (lv0 := [(0, .ref 0), (1, .int (-1))]) kc_106_9 rfl rfl rfl rfl rfl A4 (Nat.le_of_ble_eq_true rfl) (hJ _ _ _ _ (by decide)) (xm_le ml_90 rfl) rfl ?_
    refine xi_iload_n (pc' := 1) (x := (-1)) kc_90_0 rfl rfl ?_
    refine xi_ineg (pc' := 2) (v := 1) kc_90_1 rfl rfl ?_
    refine xi_istore_n (pc' := 3) (lv' := [(2, .int 1), (0, .ref 0), (1, .int (-1))]) kc_90_2 rfl rfl (xm_lt ml_90 rfl) ?_
    refine xi_iload_n (pc' := 4) (x := 1) kc_90_3 rfl rfl ?_
    refine xi_iff (pc' := 7) kc_90_4 rfl rfl ?_
    refine xi_iload_n (pc' := 8) (x := 1) kc_90_7 rfl rfl ?_
    refine xi_aload_n (pc' := 9) (x := 0) kc_90_8 rfl rfl ?_
    refine xi_getfield (pc' := 12) (v := .ref 94) kc_90_9 rfl rfl rfl A4 rfl ?_
    refine xcps4 (xk_arr K.1 xD_94) (fun y5 A5 hy5 ry5 => ?_)
    refine xi_arraylength (pc' := 13) (n := 7) (v := 7) kc_90_12 rfl (xl_lenI (by decide) (by decide) A5 hy5) rfl ?_
    refine xi_cmf (pc' := 16) kc_90_13 rfl rfl ?_
    refine xi_aload_n (pc' := 17) (x := 0) kc_90_16 rfl rfl ?_
    refine xi_getfield (pc' := 20) (v := .ref 94) kc_90_17 rfl rfl rfl A4 rfl ?_
    refine xi_iload_n (pc' := 21) (x := 1) kc_90_20 rfl rfl ?_
    refine xi_dup2 (pc' := 22) kc_90_21 rfl ⟨rfl, rfl⟩ ?_
    refine xcps4 (xj_get hy5 ry5 (i := 1) (by decide) (by decide)) (fun v6 ev6 bv6 dv6 => ?_)
    refine xi_iaload (pc' := 23) (v := v6) kc_90_22 rfl A5 (by decide) rfl (xi_in (by decide) (by rw [hy5]; decide)) ev6 ?_
    refine xi_iconst (pc' := 24) (v := 1) kc_90_23 rfl rfl ?_
    refine xcps2 (α := Int32) ((v6 : Int32) + 1) (fun v7 ev7 => ?_)
    have rv7 := xc_rng v7
    refine xi_iadd (pc' := 25) (v := v7) kc_90_24 rfl ev7 ?_
    refine xcps4 (xj_set (v := v7) hy5 ry5 1 (by first | omega | decide) (by first | omega | decide)) (fun y8 s8 hy8 ry8 => ?_)
    refine xi_iastore (pc' := 26) (x' := y8) kc_90_25 rfl A5 rfl (xi_in (by decide) (by rw [hy5]; decide)) s8 (fun hh8 eh8 => ?_)
    have K9 := xk_pa K (xk_wa rfl) xD_94 hy8 ry8 eh8
    refine xi_iload_n (pc' := 27) (x := (-1)) kc_90_26 rfl rfl ?_
    refine xi_ireturn kc_90_27 mr_90 rfl ?_
    show xw J ov (d + 4) 106 (12, [(0, .ref 0), (1, .int x1), (2, .int x2)], [.int (-1)], hh8) _
    refine xi_ireturn kc_106_12 mr_106 rfl ?_
    have zcm1 : ((-1) : Int32).toInt = (-1) := by decide
    exact kk (-1) hh8 K9
  · refine xi_iff (pc' := 4) kc_104_1 rfl (xc_lt_f (X := x1.toInt) (Y := 0) rfl (by decide) (by omega)) ?_
    refine xi_iload_n (pc' := 5) (x := x1) kc_104_4 rfl rfl ?_
    refine xi_bipush (pc' := 7) (v := 12) kc_104_5 rfl rfl ?_
    by_cases c10 : 12 ≤ x1.toInt
    · refine xi_cmt (pc' := 14) kc_104_7 rfl (xc_ge_t (X := x1.toInt) (Y := 12) rfl (by decide) (by omega)) ?_
      refine xi_iconst (pc' := 15) (v := 0) kc_104_14 rfl rfl ?_
      refine xi_ireturn kc_104_15 mr_104 rfl ?_
      show xw J ov (d + 4) 106 (4, [(0, .ref 0), (1, .int x1), (2, .int x2)], [.int 0], h) _
      refine xi_iff (pc' := 7) kc_106_4 rfl rfl ?_
      refine xi_aload_n (pc' := 8) (x := 0) kc_106_7 rfl rfl ?_
      refine xi_iconst (pc' := 9) (v := (-1)) kc_106_8 rfl rfl ?_
      refine xp_0 K.1 (fun u11 u12 bu11 bu12 A13 => ?_)
      refine xi_virtual (mj := 90) (as := [.int (-1)]) (st1 := []) (lv0 := [(0, .ref 0), (1, .int (-1))]) kc_106_9 rfl rfl rfl rfl rfl A13 (Nat.le_of_ble_eq_true rfl) (hJ _ _ _ _ (by decide)) (xm_le ml_90 rfl) rfl ?_
      refine xi_iload_n (pc' := 1) (x := (-1)) kc_90_0 rfl rfl ?_
      refine xi_ineg (pc' := 2) (v := 1) kc_90_1 rfl rfl ?_
      refine xi_istore_n (pc' := 3) (lv' := [(2, .int 1), (0, .ref 0), (1, .int (-1))]) kc_90_2 rfl rfl (xm_lt ml_90 rfl) ?_
      refine xi_iload_n (pc' := 4) (x := 1) kc_90_3 rfl rfl ?_
      refine xi_iff (pc' := 7) kc_90_4 rfl rfl ?_
      refine xi_iload_n (pc' := 8) (x := 1) kc_90_7 rfl rfl ?_
      refine xi_aload_n (pc' := 9) (x := 0) kc_90_8 rfl rfl ?_
      refine xi_getfield (pc' := 12) (v := .ref 94) kc_90_9 rfl rfl rfl A13 rfl ?_
      refine xcps4 (xk_arr K.1 xD_94) (fun y14 A14 hy14 ry14 => ?_)
      refine xi_arraylength (pc' := 13) (n := 7) (v := 7) kc_90_12 rfl (xl_lenI (by decide) (by decide) A14 hy14) rfl ?_
      refine xi_cmf (pc' := 16) kc_90_13 rfl rfl ?_
      refine xi_aload_n (pc' := 17) (x := 0) kc_90_16 rfl rfl ?_
      refine xi_getfield (pc' := 20) (v := .ref 94) kc_90_17 rfl rfl rfl A13 rfl ?_
      refine xi_iload_n (pc' := 21) (x := 1) kc_90_20 rfl rfl ?_
      refine xi_dup2 (pc' := 22) kc_90_21 rfl ⟨rfl, rfl⟩ ?_
      refine xcps4 (xj_get hy14 ry14 (i := 1) (by decide) (by decide)) (fun v15 ev15 bv15 dv15 => ?_)
      refine xi_iaload (pc' := 23) (v := v15) kc_90_22 rfl A14 (by decide) rfl (xi_in (by decide) (by rw [hy14]; decide)) ev15 ?_
      refine xi_iconst (pc' := 24) (v := 1) kc_90_23 rfl rfl ?_
      refine xcps2 (α := Int32) ((v15 : Int32) + 1) (fun v16 ev16 => ?_)
      have rv16 := xc_rng v16
      refine xi_iadd (pc' := 25) (v := v16) kc_90_24 rfl ev16 ?_
      refine xcps4 (xj_set (v := v16) hy14 ry14 1 (by first | omega | decide) (by first | omega | decide)) (fun y17 s17 hy17 ry17 => ?_)
      refine xi_iastore (pc' := 26) (x' := y17) kc_90_25 rfl A14 rfl (xi_in (by decide) (by rw [hy14]; decide)) s17 (fun hh17 eh17 => ?_)
      have K18 := xk_pa K (xk_wa rfl) xD_94 hy17 ry17 eh17
      refine xi_iload_n (pc' := 27) (x := (-1)) kc_90_26 rfl rfl ?_
      refine xi_ireturn kc_90_27 mr_90 rfl ?_
      show xw J ov (d + 4) 106 (12, [(0, .ref 0), (1, .int x1), (2, .int x2)], [.int (-1)], hh17) _
      refine xi_ireturn kc_106_12 mr_106 rfl ?_
      have zcm1 : ((-1) : Int32).toInt = (-1) := by decide
      exact kk (-1) hh17 K18
    · refine xi_cmf (pc' := 10) kc_104_7 rfl (xc_ge_f (X := x1.toInt) (Y := 12) rfl (by decide) (by omega)) ?_
      refine xi_iconst (pc' := 11) (v := 1) kc_104_10 rfl rfl ?_
      refine xi_goto (pc' := 15) kc_104_11 rfl ?_
      refine xi_ireturn kc_104_15 mr_104 rfl ?_
      show xw J ov (d + 4) 106 (4, [(0, .ref 0), (1, .int x1), (2, .int x2)], [.int 1], h) _
      refine xi_ift (pc' := 13) kc_106_4 rfl rfl ?_
      refine xi_aload_n (pc' := 14) (x := 0) kc_106_13 rfl rfl ?_
      refine xp_0 K.1 (fun u19 u20 bu19 bu20 A21 => ?_)
      refine xi_getfield (pc' := 17) (v := .ref 1) kc_106_14 rfl rfl rfl A21 rfl ?_
      refine xp_1 K.1 (fun u22 u23 bu22 bu23 A24 => ?_)
      refine xi_getfield (pc' := 20) (v := .ref 3) kc_106_17 rfl rfl rfl A24 rfl ?_
      refine xi_iload_n (pc' := 21) (x := x1) kc_106_20 rfl rfl ?_
      have A25 := xk_ex K.1 xD_3
      obtain ⟨pt26, ept26, mpt26⟩ := xR_3 (i := x1) (by omega) (by omega)
      refine xj_aaload (pc' := 22) (b := pt26) kc_106_21 rfl A25 rfl (xi_in (n := 12) (by omega) (by omega)) ept26 ?_
      refine xi_astore_n (pc' := 23) (lv' := [(3, .ref pt26), (0, .ref 0), (1, .int x1), (2, .int x2)]) kc_106_22 rfl rfl (xm_lt ml_106 rfl) ?_
      refine xi_iload_n (pc' := 24) (x := x2) kc_106_23 rfl rfl ?_
      by_cases c27 : x2.toInt = 0
      · refine xi_tsi (pc' := 64) (z := 0) kc_106_24 (by omega) rfl (by decide) ?_
        refine xi_aload_n (pc' := 65) (x := pt26) kc_106_64 rfl rfl ?_
        obtain ⟨u28, u29, u30, u31, pt32, bu28, bu29, bu30, bu31, mpt32, A33⟩ := xg_wall K.1 mpt26
        refine xi_getfield (pc' := 68) (v := .int u28) kc_106_65 rfl rfl rfl A33 rfl ?_
        refine xi_ireturn kc_106_68 mr_106 rfl ?_
        exact kk u28 h K
      by_cases c34 : x2.toInt = 1
      · refine xi_tsi (pc' := 69) (z := 1) kc_106_24 (by omega) rfl (by decide) ?_
        refine xi_aload_n (pc' := 70) (x := pt26) kc_106_69 rfl rfl ?_
        obtain ⟨u35, u36, u37, u38, pt39, bu35, bu36, bu37, bu38, mpt39, A40⟩ := xg_wall K.1 mpt26
        refine xi_getfield (pc' := 73) (v := .int u36) kc_106_70 rfl rfl rfl A40 rfl ?_
        refine xi_ireturn kc_106_73 mr_106 rfl ?_
        exact kk u36 h K
      by_cases c41 : x2.toInt = 2
      · refine xi_tsi (pc' := 74) (z := 2) kc_106_24 (by omega) rfl (by decide) ?_
        refine xi_aload_n (pc' := 75) (x := pt26) kc_106_74 rfl rfl ?_
        obtain ⟨u42, u43, u44, u45, pt46, bu42, bu43, bu44, bu45, mpt46, A47⟩ := xg_wall K.1 mpt26
        refine xi_getfield (pc' := 78) (v := .int u44) kc_106_75 rfl rfl rfl A47 rfl ?_
        by_cases c48 : u44.toInt = 0
        · refine xi_ift (pc' := 85) kc_106_78 rfl (xc_eq_t (X := u44.toInt) (Y := 0) rfl (by decide) (by omega)) ?_
          refine xi_iconst (pc' := 86) (v := 0) kc_106_85 rfl rfl ?_
          refine xi_ireturn kc_106_86 mr_106 rfl ?_
          have zc0 : (0 : Int32).toInt = 0 := by decide
          exact kk 0 h K
        · refine xi_iff (pc' := 81) kc_106_78 rfl (xc_eq_f (X := u44.toInt) (Y := 0) rfl (by decide) (by omega)) ?_
          refine xi_iconst (pc' := 82) (v := 1) kc_106_81 rfl rfl ?_
          refine xi_goto (pc' := 86) kc_106_82 rfl ?_
          refine xi_ireturn kc_106_86 mr_106 rfl ?_
          have zc1 : (1 : Int32).toInt = 1 := by decide
          exact kk 1 h K
      by_cases c49 : x2.toInt = 3
      · refine xi_tsi (pc' := 87) (z := 3) kc_106_24 (by omega) rfl (by decide) ?_
        refine xi_aload_n (pc' := 88) (x := 0) kc_106_87 rfl rfl ?_
        refine xi_getfield (pc' := 91) (v := .ref 63) kc_106_88 rfl rfl rfl A21 rfl ?_
        refine xp_63 K.1 (fun u50 u51 bu50 bu51 A52 => ?_)
        refine xi_getfield (pc' := 94) (v := .ref 65) kc_106_91 rfl rfl rfl A52 rfl ?_
        refine xi_iload_n (pc' := 95) (x := x1) kc_106_94 rfl rfl ?_
        refine xcps4 (xk_arr K.1 xD_65) (fun y53 A53 hy53 ry53 => ?_)
        refine xcps4 (xj_get hy53 ry53 (i := x1) (by omega) (by omega)) (fun v54 ev54 bv54 dv54 => ?_)
        refine xi_iaload (pc' := 96) (v := v54) kc_106_95 rfl A53 (by decide) rfl (xi_in (by omega) (by rw [hy53]; omega)) ev54 ?_
        refine xi_ireturn kc_106_96 mr_106 rfl ?_
        exact kk v54 h K
      by_cases c55 : x2.toInt = 4
      · refine xi_tsi (pc' := 97) (z := 4) kc_106_24 (by omega) rfl (by decide) ?_
        refine xi_aload_n (pc' := 98) (x := pt26) kc_106_97 rfl rfl ?_
        obtain ⟨u56, u57, u58, u59, pt60, bu56, bu57, bu58, bu59, mpt60, A61⟩ := xg_wall K.1 mpt26
        refine xi_getfield (pc' := 101) (v := .int u59) kc_106_98 rfl rfl rfl A61 rfl ?_
        refine xi_ireturn kc_106_101 mr_106 rfl ?_
        exact kk u59 h K
      by_cases c62 : x2.toInt = 5
      · refine xi_tsi (pc' := 102) (z := 5) kc_106_24 (by omega) rfl (by decide) ?_
        refine xi_aload_n (pc' := 103) (x := 0) kc_106_102 rfl rfl ?_
        refine xi_getfield (pc' := 106) (v := .ref 1) kc_106_103 rfl rfl rfl A21 rfl ?_
        refine xi_iload_n (pc' := 107) (x := x1) kc_106_106 rfl rfl ?_
        refine xi_aload_n (pc' := 108) (x := 0) kc_106_107 rfl rfl ?_
        refine xi_getfield (pc' := 111) (v := .int u20) kc_106_108 rfl rfl rfl A21 rfl ?_
        refine xi_virtual (mj := 107) (as := [.int x1, .int u20]) (st1 := []) (lv0 := [(0, .ref 1), (1, .int x1), (2, .int u20)]) kc_106_111 rfl rfl rfl rfl rfl A24 (Nat.le_of_ble_eq_true rfl) (hJ _ _ _ _ (by decide)) (xm_le ml_107 rfl) rfl ?_
        refine mt_107_0 hJ hov1 hov2 (d := d) (x1 := x1) (x2 := u20) K.1 (by first | omega | decide) (by first | omega | decide) (fun r63 hh64 br63 K65 => ?_)
        have K66 := xk_tr K K65 rfl
        refine xp_0 K66.1 (fun u67 u68 bu67 bu68 A69 => ?_)
        have e70 : u20 = u68 := xk_eqi (q := 9) K65 rfl A21 A69 rfl rfl
        subst e70
        show xw J ov (d + 4) 106 (114, [(3, .ref pt26), (0, .ref 0), (1, .int x1), (2, .int x2)], [.int r63], hh64) _
        refine xi_ireturn kc_106_114 mr_106 rfl ?_
        exact kk r63 hh64 K66
      refine xi_tsd (pc' := 115) kc_106_24 rfl (by omega) ?_
      refine xi_aload_n (pc' := 116) (x := 0) kc_106_115 rfl rfl ?_
      refine xi_bipush (pc' := 118) (v := (-2)) kc_106_116 rfl rfl ?_
      refine xi_virtual (mj := 90) (as := [.int (-2)]) (st1 := []) (lv0 := [(0, .ref 0), (1, .int (-2))]) kc_106_118 rfl rfl rfl rfl rfl A21 (Nat.le_of_ble_eq_true rfl) (hJ _ _ _ _ (by decide)) (xm_le ml_90 rfl) rfl ?_
      refine xi_iload_n (pc' := 1) (x := (-2)) kc_90_0 rfl rfl ?_
      refine xi_ineg (pc' := 2) (v := 2) kc_90_1 rfl rfl ?_
      refine xi_istore_n (pc' := 3) (lv' := [(2, .int 2), (0, .ref 0), (1, .int (-2))]) kc_90_2 rfl rfl (xm_lt ml_90 rfl) ?_
      refine xi_iload_n (pc' := 4) (x := 2) kc_90_3 rfl rfl ?_
      refine xi_iff (pc' := 7) kc_90_4 rfl rfl ?_
      refine xi_iload_n (pc' := 8) (x := 2) kc_90_7 rfl rfl ?_
      refine xi_aload_n (pc' := 9) (x := 0) kc_90_8 rfl rfl ?_
      refine xi_getfield (pc' := 12) (v := .ref 94) kc_90_9 rfl rfl rfl A21 rfl ?_
      refine xcps4 (xk_arr K.1 xD_94) (fun y71 A71 hy71 ry71 => ?_)
      refine xi_arraylength (pc' := 13) (n := 7) (v := 7) kc_90_12 rfl (xl_lenI (by decide) (by decide) A71 hy71) rfl ?_
      refine xi_cmf (pc' := 16) kc_90_13 rfl rfl ?_
      refine xi_aload_n (pc' := 17) (x := 0) kc_90_16 rfl rfl ?_
      refine xi_getfield (pc' := 20) (v := .ref 94) kc_90_17 rfl rfl rfl A21 rfl ?_
      refine xi_iload_n (pc' := 21) (x := 2) kc_90_20 rfl rfl ?_
      refine xi_dup2 (pc' := 22) kc_90_21 rfl ⟨rfl, rfl⟩ ?_
      refine xcps4 (xj_get hy71 ry71 (i := 2) (by decide) (by decide)) (fun v72 ev72 bv72 dv72 => ?_)
      refine xi_iaload (pc' := 23) (v := v72) kc_90_22 rfl A71 (by decide) rfl (xi_in (by decide) (by rw [hy71]; decide)) ev72 ?_
      refine xi_iconst (pc' := 24) (v := 1) kc_90_23 rfl rfl ?_
      refine xcps2 (α := Int32) ((v72 : Int32) + 1) (fun v73 ev73 => ?_)
      have rv73 := xc_rng v73
      refine xi_iadd (pc' := 25) (v := v73) kc_90_24 rfl ev73 ?_
      refine xcps4 (xj_set (v := v73) hy71 ry71 2 (by first | omega | decide) (by first | omega | decide)) (fun y74 s74 hy74 ry74 => ?_)
      refine xi_iastore (pc' := 26) (x' := y74) kc_90_25 rfl A71 rfl (xi_in (by decide) (by rw [hy71]; decide)) s74 (fun hh74 eh74 => ?_)
      have K75 := xk_pa K (xk_wa rfl) xD_94 hy74 ry74 eh74
      refine xi_iload_n (pc' := 27) (x := (-2)) kc_90_26 rfl rfl ?_
      refine xi_ireturn kc_90_27 mr_90 rfl ?_
      show xw J ov (d + 4) 106 (121, [(3, .ref pt26), (0, .ref 0), (1, .int x1), (2, .int x2)], [.int (-2)], hh74) _
      refine xi_ireturn kc_106_121 mr_106 rfl ?_
      have zcm2 : ((-2) : Int32).toInt = (-2) := by decide
      exact kk (-2) hh74 K75
set_option maxHeartbeats 4000000 in
theorem mt_110_0 {J : xe_J} {ov : List (List Int32)} (hJ : ∀ d mj as h, mj ≠ xe_loff → J d mj as h = none) (hov1 : ov[1]? = some [10, 0, 0, 0, 0, 0]) (hov2 : ov[2]? = some [99, 30, 50, 50, 1, 99999]) {d : Nat} {Q : Option Value → xe_H → Prop} {h : xe_H} {x1 : Int32} (T : xt h) (kk : (∀ (r : Int32) (h' : xe_H), xk [(0, 9), (115, 1), (83, 0), (29, 0), (31, 0), (33, 0), (35, 0), (37, 0), (39, 0), (41, 0), (43, 0), (45, 0), (47, 0), (49, 0), (51, 0), (125, 0), (66, 8), (115, 18), (71, 0), (132, 0)] h h' → Q (some (.int r)) h')) : xw J ov (d + 1) 110 (0, [(0, .ref 0), (1, .int x1)], [], h) Q := by
  have K : xk [(0, 9), (115, 1), (83, 0), (29, 0), (31, 0), (33, 0), (35, 0), (37, 0), (39, 0), (41, 0), (43, 0), (45, 0), (47, 0), (49, 0), (51, 0), (125, 0), (66, 8), (115, 18), (71, 0), (132, 0)] h h := xk_re T
  have rx1 := xc_rng x1
  refine xi_iload_n (pc' := 1) (x := x1) kc_110_0 rfl rfl ?_
  refine xi_iconst (pc' := 2) (v := 1) kc_110_1 rfl rfl ?_
  by_cases c1 : 1 ≤ x1.toInt
  · refine xi_cmt (pc' := 12) kc_110_2 rfl (xc_ge_t (X := x1.toInt) (Y := 1) rfl (by decide) (by omega)) ?_
    refine xi_iload_n (pc' := 13) (x := x1) kc_110_12 rfl rfl ?_
    refine xi_bipush (pc' := 15) (v := 50) kc_110_13 rfl rfl ?_
    by_cases c2 : x1.toInt ≤ 50
    · refine xi_cmt (pc' := 25) kc_110_15 rfl (xc_le_t (X := x1.toInt) (Y := 50) rfl (by decide) (by omega)) ?_
      refine xi_aload_n (pc' := 26) (x := 0) kc_110_25 rfl rfl ?_
      refine xp_0 K.1 (fun u3 u4 bu3 bu4 A5 => ?_)
      refine xi_getfield (pc' := 29) (v := .ref 66) kc_110_26 rfl rfl rfl A5 rfl ?_
      refine xp_66 K.1 (fun u7 wl6 bu7 A8 => ?_)
      refine xi_virtual (mj := 91) (as := []) (st1 := []) (lv0 := [(0, .ref 66)]) kc_110_29 rfl rfl rfl rfl rfl A8 (Nat.le_of_ble_eq_true rfl) (hJ _ _ _ _ (by decide)) (xm_le ml_91 rfl) rfl ?_
      refine xi_aload_n (pc' := 1) (x := 66) kc_91_0 rfl rfl ?_
      refine xi_lconst (pc' := 2) (v := 0) kc_91_1 rfl rfl ?_
      refine xi_putfield (pc' := 5) (fs' := [.ref 1, .ref 67, .ref 70, .ref 71, .ref 72, .ref 73, .ref 74, .long 0, .int u7]) kc_91_2 rfl rfl rfl A8 rfl rfl rfl (Nat.le_of_ble_eq_true rfl) rfl (fun hh10 eh9 => ?_)
      have K11 := xk_pl (k := 7) (v := 0) K (xk_wf rfl) xD_66 A8 rfl eh9 rfl
      refine xi_return kc_91_5 mr_91 ?_
      show xw J ov (d + 1) 110 (32, [(0, .ref 0), (1, .int x1)], [], hh10) _
      refine xi_aload_n (pc' := 33) (x := 0) kc_110_32 rfl rfl ?_
      have A12 := ((eh9.2.1 0 (by decide)).trans A5)
      refine xi_getfield (pc' := 36) (v := .ref 1) kc_110_33 rfl rfl rfl A12 rfl ?_
      refine xp_1 K11.1 (fun u13 u14 bu13 bu14 A15 => ?_)
      refine xi_getfield (pc' := 39) (v := .int u14) kc_110_36 rfl rfl rfl A15 rfl ?_
      refine xi_istore_n (pc' := 40) (lv' := [(2, .int u14), (0, .ref 0), (1, .int x1)]) kc_110_39 rfl rfl (xm_lt ml_110 rfl) ?_
      refine xi_aload_n (pc' := 41) (x := 0) kc_110_40 rfl rfl ?_
      refine xi_getfield (pc' := 44) (v := .ref 1) kc_110_41 rfl rfl rfl A12 rfl ?_
      refine xi_iload_n (pc' := 45) (x := x1) kc_110_44 rfl rfl ?_
      refine xi_putfield (pc' := 48) (fs' := [.ref 2, .ref 3, .ref 4, .ref 5, .ref 8, .int u13, .int x1]) kc_110_45 rfl rfl rfl A15 rfl rfl rfl (Nat.le_of_ble_eq_true rfl) rfl (fun hh17 eh16 => ?_)
      have K18 := xk_pf (k := 6) (v := x1) K11 (xk_wf rfl) xD_1 A15 rfl (by first | omega | decide) (by first | omega | decide) eh16 rfl
      refine xi_iload_n (pc' := 49) (x := u14) kc_110_48 rfl rfl ?_
      refine xi_ireturn kc_110_49 mr_110 rfl ?_
      exact kk u14 hh17 K18
    · refine xi_cmf (pc' := 18) kc_110_15 rfl (xc_le_f (X := x1.toInt) (Y := 50) rfl (by decide) (by omega)) ?_
      refine xi_aload_n (pc' := 19) (x := 0) kc_110_18 rfl rfl ?_
      refine xi_bipush (pc' := 21) (v := (-6)) kc_110_19 rfl rfl ?_
      refine xp_0 K.1 (fun u19 u20 bu19 bu20 A21 => ?_)
      refine xi_virtual (mj := 90) (as := [.int (-6)]) (st1 := []) (lv0 := [(0, .ref 0), (1, .int (-6))]) kc_110_21 rfl rfl rfl rfl rfl A21 (Nat.le_of_ble_eq_true rfl) (hJ _ _ _ _ (by decide)) (xm_le ml_90 rfl) rfl ?_
      refine xi_iload_n (pc' := 1) (x := (-6)) kc_90_0 rfl rfl ?_
      refine xi_ineg (pc' := 2) (v := 6) kc_90_1 rfl rfl ?_
      refine xi_istore_n (pc' := 3) (lv' := [(2, .int 6), (0, .ref 0), (1, .int (-6))]) kc_90_2 rfl rfl (xm_lt ml_90 rfl) ?_
      refine xi_iload_n (pc' := 4) (x := 6) kc_90_3 rfl rfl ?_
      refine xi_iff (pc' := 7) kc_90_4 rfl rfl ?_
      refine xi_iload_n (pc' := 8) (x := 6) kc_90_7 rfl rfl ?_
      refine xi_aload_n (pc' := 9) (x := 0) kc_90_8 rfl rfl ?_
      refine xi_getfield (pc' := 12) (v := .ref 94) kc_90_9 rfl rfl rfl A21 rfl ?_
      refine xcps4 (xk_arr K.1 xD_94) (fun y22 A22 hy22 ry22 => ?_)
      refine xi_arraylength (pc' := 13) (n := 7) (v := 7) kc_90_12 rfl (xl_lenI (by decide) (by decide) A22 hy22) rfl ?_
      refine xi_cmf (pc' := 16) kc_90_13 rfl rfl ?_
      refine xi_aload_n (pc' := 17) (x := 0) kc_90_16 rfl rfl ?_
      refine xi_getfield (pc' := 20) (v := .ref 94) kc_90_17 rfl rfl rfl A21 rfl ?_
      refine xi_iload_n (pc' := 21) (x := 6) kc_90_20 rfl rfl ?_
      refine xi_dup2 (pc' := 22) kc_90_21 rfl ⟨rfl, rfl⟩ ?_
      refine xcps4 (xj_get hy22 ry22 (i := 6) (by decide) (by decide)) (fun v23 ev23 bv23 dv23 => ?_)
      refine xi_iaload (pc' := 23) (v := v23) kc_90_22 rfl A22 (by decide) rfl (xi_in (by decide) (by rw [hy22]; decide)) ev23 ?_
      refine xi_iconst (pc' := 24) (v := 1) kc_90_23 rfl rfl ?_
      refine xcps2 (α := Int32) ((v23 : Int32) + 1) (fun v24 ev24 => ?_)
      have rv24 := xc_rng v24
      refine xi_iadd (pc' := 25) (v := v24) kc_90_24 rfl ev24 ?_
      refine xcps4 (xj_set (v := v24) hy22 ry22 6 (by first | omega | decide) (by first | omega | decide)) (fun y25 s25 hy25 ry25 => ?_)
      refine xi_iastore (pc' := 26) (x' := y25) kc_90_25 rfl A22 rfl (xi_in (by decide) (by rw [hy22]; decide)) s25 (fun hh25 eh25 => ?_)
      have K26 := xk_pa K (xk_wa rfl) xD_94 hy25 ry25 eh25
      refine xi_iload_n (pc' := 27) (x := (-6)) kc_90_26 rfl rfl ?_
      refine xi_ireturn kc_90_27 mr_90 rfl ?_
      show xw J ov (d + 1) 110 (24, [(0, .ref 0), (1, .int x1)], [.int (-6)], hh25) _
      refine xi_ireturn kc_110_24 mr_110 rfl ?_
      have zcm6 : ((-6) : Int32).toInt = (-6) := by decide
      exact kk (-6) hh25 K26
  · refine xi_cmf (pc' := 5) kc_110_2 rfl (xc_ge_f (X := x1.toInt) (Y := 1) rfl (by decide) (by omega)) ?_
    refine xi_aload_n (pc' := 6) (x := 0) kc_110_5 rfl rfl ?_
    refine xi_bipush (pc' := 8) (v := (-4)) kc_110_6 rfl rfl ?_
    refine xp_0 K.1 (fun u27 u28 bu27 bu28 A29 => ?_)
    refine xi_virtual (mj := 90) (as := [.int (-4)]) (st1 := []) (lv0 := [(0, .ref 0), (1, .int (-4))]) kc_110_8 rfl rfl rfl rfl rfl A29 (Nat.le_of_ble_eq_true rfl) (hJ _ _ _ _ (by decide)) (xm_le ml_90 rfl) rfl ?_
    refine xi_iload_n (pc' := 1) (x := (-4)) kc_90_0 rfl rfl ?_
    refine xi_ineg (pc' := 2) (v := 4) kc_90_1 rfl rfl ?_
    refine xi_istore_n (pc' := 3) (lv' := [(2, .int 4), (0, .ref 0), (1, .int (-4))]) kc_90_2 rfl rfl (xm_lt ml_90 rfl) ?_
    refine xi_iload_n (pc' := 4) (x := 4) kc_90_3 rfl rfl ?_
    refine xi_iff (pc' := 7) kc_90_4 rfl rfl ?_
    refine xi_iload_n (pc' := 8) (x := 4) kc_90_7 rfl rfl ?_
    refine xi_aload_n (pc' := 9) (x := 0) kc_90_8 rfl rfl ?_
    refine xi_getfield (pc' := 12) (v := .ref 94) kc_90_9 rfl rfl rfl A29 rfl ?_
    refine xcps4 (xk_arr K.1 xD_94) (fun y30 A30 hy30 ry30 => ?_)
    refine xi_arraylength (pc' := 13) (n := 7) (v := 7) kc_90_12 rfl (xl_lenI (by decide) (by decide) A30 hy30) rfl ?_
    refine xi_cmf (pc' := 16) kc_90_13 rfl rfl ?_
    refine xi_aload_n (pc' := 17) (x := 0) kc_90_16 rfl rfl ?_
    refine xi_getfield (pc' := 20) (v := .ref 94) kc_90_17 rfl rfl rfl A29 rfl ?_
    refine xi_iload_n (pc' := 21) (x := 4) kc_90_20 rfl rfl ?_
    refine xi_dup2 (pc' := 22) kc_90_21 rfl ⟨rfl, rfl⟩ ?_
    refine xcps4 (xj_get hy30 ry30 (i := 4) (by decide) (by decide)) (fun v31 ev31 bv31 dv31 => ?_)
    refine xi_iaload (pc' := 23) (v := v31) kc_90_22 rfl A30 (by decide) rfl (xi_in (by decide) (by rw [hy30]; decide)) ev31 ?_
    refine xi_iconst (pc' := 24) (v := 1) kc_90_23 rfl rfl ?_
    refine xcps2 (α := Int32) ((v31 : Int32) + 1) (fun v32 ev32 => ?_)
    have rv32 := xc_rng v32
    refine xi_iadd (pc' := 25) (v := v32) kc_90_24 rfl ev32 ?_
    refine xcps4 (xj_set (v := v32) hy30 ry30 4 (by first | omega | decide) (by first | omega | decide)) (fun y33 s33 hy33 ry33 => ?_)
    refine xi_iastore (pc' := 26) (x' := y33) kc_90_25 rfl A30 rfl (xi_in (by decide) (by rw [hy30]; decide)) s33 (fun hh33 eh33 => ?_)
    have K34 := xk_pa K (xk_wa rfl) xD_94 hy33 ry33 eh33
    refine xi_iload_n (pc' := 27) (x := (-4)) kc_90_26 rfl rfl ?_
    refine xi_ireturn kc_90_27 mr_90 rfl ?_
    show xw J ov (d + 1) 110 (11, [(0, .ref 0), (1, .int x1)], [.int (-4)], hh33) _
    refine xi_ireturn kc_110_11 mr_110 rfl ?_
    have zcm4 : ((-4) : Int32).toInt = (-4) := by decide
    exact kk (-4) hh33 K34
set_option maxHeartbeats 4000000 in
theorem mt_111_0 {J : xe_J} {ov : List (List Int32)} (hJ : ∀ d mj as h, mj ≠ xe_loff → J d mj as h = none) (hov1 : ov[1]? = some [10, 0, 0, 0, 0, 0]) (hov2 : ov[2]? = some [99, 30, 50, 50, 1, 99999]) {d : Nat} {Q : Option Value → xe_H → Prop} {h : xe_H} {x1 : Int32} (T : xt h) (kk : (∀ (r : Int32) (h' : xe_H), xk [(0, 9), (115, 1), (83, 0), (29, 0), (31, 0), (33, 0), (35, 0), (37, 0), (39, 0), (41, 0), (43, 0), (45, 0), (47, 0), (49, 0), (51, 0), (125, 0), (66, 8), (115, 18), (71, 0), (132, 0)] h h' → Q (some (.int r)) h')) : xw J ov (d + 1) 111 (0, [(0, .ref 0), (1, .int x1)], [], h) Q := by
  have K : xk [(0, 9), (115, 1), (83, 0), (29, 0), (31, 0), (33, 0), (35, 0), (37, 0), (39, 0), (41, 0), (43, 0), (45, 0), (47, 0), (49, 0), (51, 0), (125, 0), (66, 8), (115, 18), (71, 0), (132, 0)] h h := xk_re T
  have rx1 := xc_rng x1
  refine xi_iload_n (pc' := 1) (x := x1) kc_111_0 rfl rfl ?_
  refine xi_static (mj := 104) (as := [.int x1]) (st1 := []) (lv0 := [(0, .int x1)]) kc_111_1 rfl rfl (Nat.le_of_ble_eq_true rfl) rfl rfl (Nat.le_of_ble_eq_true rfl) (hJ _ _ _ _ (by decide)) (xm_le ml_104 rfl) rfl ?_
  refine xi_iload_n (pc' := 1) (x := x1) kc_104_0 rfl rfl ?_
  by_cases c1 : x1.toInt < 0
  · refine xi_ift (pc' := 14) kc_104_1 rfl (xc_lt_t (X := x1.toInt) (Y := 0) rfl (by decide) (by omega)) ?_
    refine xi_iconst (pc' := 15) (v := 0) kc_104_14 rfl rfl ?_
    refine xi_ireturn kc_104_15 mr_104 rfl ?_
    show xw J ov (d + 1) 111 (4, [(0, .ref 0), (1, .int x1)], [.int 0], h) _
    refine xi_iff (pc' := 7) kc_111_4 rfl rfl ?_
    refine xi_aload_n (pc' := 8) (x := 0) kc_111_7 rfl rfl ?_
    refine xi_iconst (pc' := 9) (v := (-1)) kc_111_8 rfl rfl ?_
    refine xp_0 K.1 (fun u2 u3 bu2 bu3 A4 => ?_)
    refine xi_virtual (mj := 90) (as := [.int (-1)]) (st1 := []) (lv0 := [(0, .ref 0), (1, .int (-1))]) kc_111_9 rfl rfl rfl rfl rfl A4 (Nat.le_of_ble_eq_true rfl) (hJ _ _ _ _ (by decide)) (xm_le ml_90 rfl) rfl ?_
    refine xi_iload_n (pc' := 1) (x := (-1)) kc_90_0 rfl rfl ?_
    refine xi_ineg (pc' := 2) (v := 1) kc_90_1 rfl rfl ?_
    refine xi_istore_n (pc' := 3) (lv' := [(2, .int 1), (0, .ref 0), (1, .int (-1))]) kc_90_2 rfl rfl (xm_lt ml_90 rfl) ?_
    refine xi_iload_n (pc' := 4) (x := 1) kc_90_3 rfl rfl ?_
    refine xi_iff (pc' := 7) kc_90_4 rfl rfl ?_
    refine xi_iload_n (pc' := 8) (x := 1) kc_90_7 rfl rfl ?_
    refine xi_aload_n (pc' := 9) (x := 0) kc_90_8 rfl rfl ?_
    refine xi_getfield (pc' := 12) (v := .ref 94) kc_90_9 rfl rfl rfl A4 rfl ?_
    refine xcps4 (xk_arr K.1 xD_94) (fun y5 A5 hy5 ry5 => ?_)
    refine xi_arraylength (pc' := 13) (n := 7) (v := 7) kc_90_12 rfl (xl_lenI (by decide) (by decide) A5 hy5) rfl ?_
    refine xi_cmf (pc' := 16) kc_90_13 rfl rfl ?_
    refine xi_aload_n (pc' := 17) (x := 0) kc_90_16 rfl rfl ?_
    refine xi_getfield (pc' := 20) (v := .ref 94) kc_90_17 rfl rfl rfl A4 rfl ?_
    refine xi_iload_n (pc' := 21) (x := 1) kc_90_20 rfl rfl ?_
    refine xi_dup2 (pc' := 22) kc_90_21 rfl ⟨rfl, rfl⟩ ?_
    refine xcps4 (xj_get hy5 ry5 (i := 1) (by decide) (by decide)) (fun v6 ev6 bv6 dv6 => ?_)
    refine xi_iaload (pc' := 23) (v := v6) kc_90_22 rfl A5 (by decide) rfl (xi_in (by decide) (by rw [hy5]; decide)) ev6 ?_
    refine xi_iconst (pc' := 24) (v := 1) kc_90_23 rfl rfl ?_
    refine xcps2 (α := Int32) ((v6 : Int32) + 1) (fun v7 ev7 => ?_)
    have rv7 := xc_rng v7
    refine xi_iadd (pc' := 25) (v := v7) kc_90_24 rfl ev7 ?_
    refine xcps4 (xj_set (v := v7) hy5 ry5 1 (by first | omega | decide) (by first | omega | decide)) (fun y8 s8 hy8 ry8 => ?_)
    refine xi_iastore (pc' := 26) (x' := y8) kc_90_25 rfl A5 rfl (xi_in (by decide) (by rw [hy5]; decide)) s8 (fun hh8 eh8 => ?_)
    have K9 := xk_pa K (xk_wa rfl) xD_94 hy8 ry8 eh8
    refine xi_iload_n (pc' := 27) (x := (-1)) kc_90_26 rfl rfl ?_
    refine xi_ireturn kc_90_27 mr_90 rfl ?_
    show xw J ov (d + 1) 111 (12, [(0, .ref 0), (1, .int x1)], [.int (-1)], hh8) _
    refine xi_ireturn kc_111_12 mr_111 rfl ?_
    have zcm1 : ((-1) : Int32).toInt = (-1) := by decide
    exact kk (-1) hh8 K9
  · refine xi_iff (pc' := 4) kc_104_1 rfl (xc_lt_f (X := x1.toInt) (Y := 0) rfl (by decide) (by omega)) ?_
    refine xi_iload_n (pc' := 5) (x := x1) kc_104_4 rfl rfl ?_
    refine xi_bipush (pc' := 7) (v := 12) kc_104_5 rfl rfl ?_
    by_cases c10 : 12 ≤ x1.toInt
    · refine xi_cmt (pc' := 14) kc_104_7 rfl (xc_ge_t (X := x1.toInt) (Y := 12) rfl (by decide) (by omega)) ?_
      refine xi_iconst (pc' := 15) (v := 0) kc_104_14 rfl rfl ?_
      refine xi_ireturn kc_104_15 mr_104 rfl ?_
      show xw J ov (d + 1) 111 (4, [(0, .ref 0), (1, .int x1)], [.int 0], h) _
      refine xi_iff (pc' := 7) kc_111_4 rfl rfl ?_
      refine xi_aload_n (pc' := 8) (x := 0) kc_111_7 rfl rfl ?_
      refine xi_iconst (pc' := 9) (v := (-1)) kc_111_8 rfl rfl ?_
      refine xp_0 K.1 (fun u11 u12 bu11 bu12 A13 => ?_)
      refine xi_virtual (mj := 90) (as := [.int (-1)]) (st1 := []) (lv0 := [(0, .ref 0), (1, .int (-1))]) kc_111_9 rfl rfl rfl rfl rfl A13 (Nat.le_of_ble_eq_true rfl) (hJ _ _ _ _ (by decide)) (xm_le ml_90 rfl) rfl ?_
      refine xi_iload_n (pc' := 1) (x := (-1)) kc_90_0 rfl rfl ?_
      refine xi_ineg (pc' := 2) (v := 1) kc_90_1 rfl rfl ?_
      refine xi_istore_n (pc' := 3) (lv' := [(2, .int 1), (0, .ref 0), (1, .int (-1))]) kc_90_2 rfl rfl (xm_lt ml_90 rfl) ?_
      refine xi_iload_n (pc' := 4) (x := 1) kc_90_3 rfl rfl ?_
      refine xi_iff (pc' := 7) kc_90_4 rfl rfl ?_
      refine xi_iload_n (pc' := 8) (x := 1) kc_90_7 rfl rfl ?_
      refine xi_aload_n (pc' := 9) (x := 0) kc_90_8 rfl rfl ?_
      refine xi_getfield (pc' := 12) (v := .ref 94) kc_90_9 rfl rfl rfl A13 rfl ?_
      refine xcps4 (xk_arr K.1 xD_94) (fun y14 A14 hy14 ry14 => ?_)
      refine xi_arraylength (pc' := 13) (n := 7) (v := 7) kc_90_12 rfl (xl_lenI (by decide) (by decide) A14 hy14) rfl ?_
      refine xi_cmf (pc' := 16) kc_90_13 rfl rfl ?_
      refine xi_aload_n (pc' := 17) (x := 0) kc_90_16 rfl rfl ?_
      refine xi_getfield (pc' := 20) (v := .ref 94) kc_90_17 rfl rfl rfl A13 rfl ?_
      refine xi_iload_n (pc' := 21) (x := 1) kc_90_20 rfl rfl ?_
      refine xi_dup2 (pc' := 22) kc_90_21 rfl ⟨rfl, rfl⟩ ?_
      refine xcps4 (xj_get hy14 ry14 (i := 1) (by decide) (by decide)) (fun v15 ev15 bv15 dv15 => ?_)
      refine xi_iaload (pc' := 23) (v := v15) kc_90_22 rfl A14 (by decide) rfl (xi_in (by decide) (by rw [hy14]; decide)) ev15 ?_
      refine xi_iconst (pc' := 24) (v := 1) kc_90_23 rfl rfl ?_
      refine xcps2 (α := Int32) ((v15 : Int32) + 1) (fun v16 ev16 => ?_)
      have rv16 := xc_rng v16
      refine xi_iadd (pc' := 25) (v := v16) kc_90_24 rfl ev16 ?_
      refine xcps4 (xj_set (v := v16) hy14 ry14 1 (by first | omega | decide) (by first | omega | decide)) (fun y17 s17 hy17 ry17 => ?_)
      refine xi_iastore (pc' := 26) (x' := y17) kc_90_25 rfl A14 rfl (xi_in (by decide) (by rw [hy14]; decide)) s17 (fun hh17 eh17 => ?_)
      have K18 := xk_pa K (xk_wa rfl) xD_94 hy17 ry17 eh17
      refine xi_iload_n (pc' := 27) (x := (-1)) kc_90_26 rfl rfl ?_
      refine xi_ireturn kc_90_27 mr_90 rfl ?_
      show xw J ov (d + 1) 111 (12, [(0, .ref 0), (1, .int x1)], [.int (-1)], hh17) _
      refine xi_ireturn kc_111_12 mr_111 rfl ?_
      have zcm1 : ((-1) : Int32).toInt = (-1) := by decide
      exact kk (-1) hh17 K18
    · refine xi_cmf (pc' := 10) kc_104_7 rfl (xc_ge_f (X := x1.toInt) (Y := 12) rfl (by decide) (by omega)) ?_
      refine xi_iconst (pc' := 11) (v := 1) kc_104_10 rfl rfl ?_
      refine xi_goto (pc' := 15) kc_104_11 rfl ?_
      refine xi_ireturn kc_104_15 mr_104 rfl ?_
      show xw J ov (d + 1) 111 (4, [(0, .ref 0), (1, .int x1)], [.int 1], h) _
      refine xi_ift (pc' := 13) kc_111_4 rfl rfl ?_
      refine xi_aload_n (pc' := 14) (x := 0) kc_111_13 rfl rfl ?_
      refine xp_0 K.1 (fun u19 u20 bu19 bu20 A21 => ?_)
      refine xi_getfield (pc' := 17) (v := .ref 1) kc_111_14 rfl rfl rfl A21 rfl ?_
      refine xp_1 K.1 (fun u22 u23 bu22 bu23 A24 => ?_)
      refine xi_getfield (pc' := 20) (v := .ref 3) kc_111_17 rfl rfl rfl A24 rfl ?_
      refine xi_iload_n (pc' := 21) (x := x1) kc_111_20 rfl rfl ?_
      have A25 := xk_ex K.1 xD_3
      obtain ⟨pt26, ept26, mpt26⟩ := xR_3 (i := x1) (by omega) (by omega)
      refine xj_aaload (pc' := 22) (b := pt26) kc_111_21 rfl A25 rfl (xi_in (n := 12) (by omega) (by omega)) ept26 ?_
      obtain ⟨u27, u28, u29, u30, pt31, bu27, bu28, bu29, bu30, mpt31, A32⟩ := xg_wall K.1 mpt26
      refine xi_getfield (pc' := 25) (v := .int u30) kc_111_22 rfl rfl rfl A32 rfl ?_
      refine xi_istore_n (pc' := 26) (lv' := [(2, .int u30), (0, .ref 0), (1, .int x1)]) kc_111_25 rfl rfl (xm_lt ml_111 rfl) ?_
      refine xi_aload_n (pc' := 27) (x := 0) kc_111_26 rfl rfl ?_
      refine xi_getfield (pc' := 30) (v := .ref 1) kc_111_27 rfl rfl rfl A21 rfl ?_
      refine xi_getfield (pc' := 33) (v := .ref 3) kc_111_30 rfl rfl rfl A24 rfl ?_
      refine xi_iload_n (pc' := 34) (x := x1) kc_111_33 rfl rfl ?_
      refine xj_aaload (pc' := 35) (b := pt26) kc_111_34 rfl A25 rfl (xi_in (n := 12) (by omega) (by omega)) ept26 ?_
      refine xi_iconst (pc' := 36) (v := 0) kc_111_35 rfl rfl ?_
      refine xi_putfield (pc' := 39) (fs' := [.int u27, .int u28, .int u29, .int 0, .ref pt31]) kc_111_36 rfl rfl rfl A32 rfl rfl rfl (Nat.le_of_ble_eq_true rfl) rfl (fun hh34 eh33 => ?_)
      obtain ⟨ds35, Dds35, dds35_0, dds35_1, dds35_2, dds35_3⟩ := xGo_wall mpt26
      have K36 := xk_pf (k := 3) (v := 0) K (xk_gf mpt26 rfl) Dds35 A32 dds35_3 (by first | omega | decide) (by first | omega | decide) eh33 rfl
      refine xi_iload_n (pc' := 40) (x := u30) kc_111_39 rfl rfl ?_
      refine xi_ireturn kc_111_40 mr_111 rfl ?_
      exact kk u30 hh34 K36
set_option maxHeartbeats 4000000 in
theorem mt_112_0 {J : xe_J} {ov : List (List Int32)} (hJ : ∀ d mj as h, mj ≠ xe_loff → J d mj as h = none) (hov1 : ov[1]? = some [10, 0, 0, 0, 0, 0]) (hov2 : ov[2]? = some [99, 30, 50, 50, 1, 99999]) {d : Nat} {Q : Option Value → xe_H → Prop} {h : xe_H} {x1 : Int32} (T : xt h) (kk : (∀ (r : Int32) (h' : xe_H), xk [(0, 9), (115, 1), (83, 0), (29, 0), (31, 0), (33, 0), (35, 0), (37, 0), (39, 0), (41, 0), (43, 0), (45, 0), (47, 0), (49, 0), (51, 0), (125, 0), (66, 8), (115, 18), (71, 0), (132, 0)] h h' → Q (some (.int r)) h')) : xw J ov (d + 1) 112 (0, [(0, .ref 0), (1, .int x1)], [], h) Q := by
  have K : xk [(0, 9), (115, 1), (83, 0), (29, 0), (31, 0), (33, 0), (35, 0), (37, 0), (39, 0), (41, 0), (43, 0), (45, 0), (47, 0), (49, 0), (51, 0), (125, 0), (66, 8), (115, 18), (71, 0), (132, 0)] h h := xk_re T
  have rx1 := xc_rng x1
  refine xi_iload_n (pc' := 1) (x := x1) kc_112_0 rfl rfl ?_
  refine xi_static (mj := 89) (as := [.int x1]) (st1 := []) (lv0 := [(0, .int x1)]) kc_112_1 rfl rfl (Nat.le_of_ble_eq_true rfl) rfl rfl (Nat.le_of_ble_eq_true rfl) (hJ _ _ _ _ (by decide)) (xm_le ml_89 rfl) rfl ?_
  refine xi_iload_n (pc' := 1) (x := x1) kc_89_0 rfl rfl ?_
  by_cases c1 : x1.toInt < 0
  · refine xi_ift (pc' := 14) kc_89_1 rfl (xc_lt_t (X := x1.toInt) (Y := 0) rfl (by decide) (by omega)) ?_
    refine xi_iconst (pc' := 15) (v := 0) kc_89_14 rfl rfl ?_
    refine xi_ireturn kc_89_15 mr_89 rfl ?_
    show xw J ov (d + 1) 112 (4, [(0, .ref 0), (1, .int x1)], [.int 0], h) _
    refine xi_ift (pc' := 19) kc_112_4 rfl rfl ?_
    refine xi_aload_n (pc' := 20) (x := 0) kc_112_19 rfl rfl ?_
    refine xi_iconst (pc' := 21) (v := (-1)) kc_112_20 rfl rfl ?_
    refine xp_0 K.1 (fun u2 u3 bu2 bu3 A4 => ?_)
    refine xi_virtual (mj := 90) (as := [.int (-1)]) (st1 := []) (lv0 := [(0, .ref 0), (1, .int (-1))]) kc_112_21 rfl rfl rfl rfl rfl A4 (Nat.le_of_ble_eq_true rfl) (hJ _ _ _ _ (by decide)) (xm_le ml_90 rfl) rfl ?_
    refine xi_iload_n (pc' := 1) (x := (-1)) kc_90_0 rfl rfl ?_
    refine xi_ineg (pc' := 2) (v := 1) kc_90_1 rfl rfl ?_
    refine xi_istore_n (pc' := 3) (lv' := [(2, .int 1), (0, .ref 0), (1, .int (-1))]) kc_90_2 rfl rfl (xm_lt ml_90 rfl) ?_
    refine xi_iload_n (pc' := 4) (x := 1) kc_90_3 rfl rfl ?_
    refine xi_iff (pc' := 7) kc_90_4 rfl rfl ?_
    refine xi_iload_n (pc' := 8) (x := 1) kc_90_7 rfl rfl ?_
    refine xi_aload_n (pc' := 9) (x := 0) kc_90_8 rfl rfl ?_
    refine xi_getfield (pc' := 12) (v := .ref 94) kc_90_9 rfl rfl rfl A4 rfl ?_
    refine xcps4 (xk_arr K.1 xD_94) (fun y5 A5 hy5 ry5 => ?_)
    refine xi_arraylength (pc' := 13) (n := 7) (v := 7) kc_90_12 rfl (xl_lenI (by decide) (by decide) A5 hy5) rfl ?_
    refine xi_cmf (pc' := 16) kc_90_13 rfl rfl ?_
    refine xi_aload_n (pc' := 17) (x := 0) kc_90_16 rfl rfl ?_
    refine xi_getfield (pc' := 20) (v := .ref 94) kc_90_17 rfl rfl rfl A4 rfl ?_
    refine xi_iload_n (pc' := 21) (x := 1) kc_90_20 rfl rfl ?_
    refine xi_dup2 (pc' := 22) kc_90_21 rfl ⟨rfl, rfl⟩ ?_
    refine xcps4 (xj_get hy5 ry5 (i := 1) (by decide) (by decide)) (fun v6 ev6 bv6 dv6 => ?_)
    refine xi_iaload (pc' := 23) (v := v6) kc_90_22 rfl A5 (by decide) rfl (xi_in (by decide) (by rw [hy5]; decide)) ev6 ?_
    refine xi_iconst (pc' := 24) (v := 1) kc_90_23 rfl rfl ?_
    refine xcps2 (α := Int32) ((v6 : Int32) + 1) (fun v7 ev7 => ?_)
    have rv7 := xc_rng v7
    refine xi_iadd (pc' := 25) (v := v7) kc_90_24 rfl ev7 ?_
    refine xcps4 (xj_set (v := v7) hy5 ry5 1 (by first | omega | decide) (by first | omega | decide)) (fun y8 s8 hy8 ry8 => ?_)
    refine xi_iastore (pc' := 26) (x' := y8) kc_90_25 rfl A5 rfl (xi_in (by decide) (by rw [hy5]; decide)) s8 (fun hh8 eh8 => ?_)
    have K9 := xk_pa K (xk_wa rfl) xD_94 hy8 ry8 eh8
    refine xi_iload_n (pc' := 27) (x := (-1)) kc_90_26 rfl rfl ?_
    refine xi_ireturn kc_90_27 mr_90 rfl ?_
    show xw J ov (d + 1) 112 (24, [(0, .ref 0), (1, .int x1)], [.int (-1)], hh8) _
    refine xi_ireturn kc_112_24 mr_112 rfl ?_
    have zcm1 : ((-1) : Int32).toInt = (-1) := by decide
    exact kk (-1) hh8 K9
  · refine xi_iff (pc' := 4) kc_89_1 rfl (xc_lt_f (X := x1.toInt) (Y := 0) rfl (by decide) (by omega)) ?_
    refine xi_iload_n (pc' := 5) (x := x1) kc_89_4 rfl rfl ?_
    refine xi_bipush (pc' := 7) (v := 6) kc_89_5 rfl rfl ?_
    by_cases c10 : 6 ≤ x1.toInt
    · refine xi_cmt (pc' := 14) kc_89_7 rfl (xc_ge_t (X := x1.toInt) (Y := 6) rfl (by decide) (by omega)) ?_
      refine xi_iconst (pc' := 15) (v := 0) kc_89_14 rfl rfl ?_
      refine xi_ireturn kc_89_15 mr_89 rfl ?_
      show xw J ov (d + 1) 112 (4, [(0, .ref 0), (1, .int x1)], [.int 0], h) _
      refine xi_ift (pc' := 19) kc_112_4 rfl rfl ?_
      refine xi_aload_n (pc' := 20) (x := 0) kc_112_19 rfl rfl ?_
      refine xi_iconst (pc' := 21) (v := (-1)) kc_112_20 rfl rfl ?_
      refine xp_0 K.1 (fun u11 u12 bu11 bu12 A13 => ?_)
      refine xi_virtual (mj := 90) (as := [.int (-1)]) (st1 := []) (lv0 := [(0, .ref 0), (1, .int (-1))]) kc_112_21 rfl rfl rfl rfl rfl A13 (Nat.le_of_ble_eq_true rfl) (hJ _ _ _ _ (by decide)) (xm_le ml_90 rfl) rfl ?_
      refine xi_iload_n (pc' := 1) (x := (-1)) kc_90_0 rfl rfl ?_
      refine xi_ineg (pc' := 2) (v := 1) kc_90_1 rfl rfl ?_
      refine xi_istore_n (pc' := 3) (lv' := [(2, .int 1), (0, .ref 0), (1, .int (-1))]) kc_90_2 rfl rfl (xm_lt ml_90 rfl) ?_
      refine xi_iload_n (pc' := 4) (x := 1) kc_90_3 rfl rfl ?_
      refine xi_iff (pc' := 7) kc_90_4 rfl rfl ?_
      refine xi_iload_n (pc' := 8) (x := 1) kc_90_7 rfl rfl ?_
      refine xi_aload_n (pc' := 9) (x := 0) kc_90_8 rfl rfl ?_
      refine xi_getfield (pc' := 12) (v := .ref 94) kc_90_9 rfl rfl rfl A13 rfl ?_
      refine xcps4 (xk_arr K.1 xD_94) (fun y14 A14 hy14 ry14 => ?_)
      refine xi_arraylength (pc' := 13) (n := 7) (v := 7) kc_90_12 rfl (xl_lenI (by decide) (by decide) A14 hy14) rfl ?_
      refine xi_cmf (pc' := 16) kc_90_13 rfl rfl ?_
      refine xi_aload_n (pc' := 17) (x := 0) kc_90_16 rfl rfl ?_
      refine xi_getfield (pc' := 20) (v := .ref 94) kc_90_17 rfl rfl rfl A13 rfl ?_
      refine xi_iload_n (pc' := 21) (x := 1) kc_90_20 rfl rfl ?_
      refine xi_dup2 (pc' := 22) kc_90_21 rfl ⟨rfl, rfl⟩ ?_
      refine xcps4 (xj_get hy14 ry14 (i := 1) (by decide) (by decide)) (fun v15 ev15 bv15 dv15 => ?_)
      refine xi_iaload (pc' := 23) (v := v15) kc_90_22 rfl A14 (by decide) rfl (xi_in (by decide) (by rw [hy14]; decide)) ev15 ?_
      refine xi_iconst (pc' := 24) (v := 1) kc_90_23 rfl rfl ?_
      refine xcps2 (α := Int32) ((v15 : Int32) + 1) (fun v16 ev16 => ?_)
      have rv16 := xc_rng v16
      refine xi_iadd (pc' := 25) (v := v16) kc_90_24 rfl ev16 ?_
      refine xcps4 (xj_set (v := v16) hy14 ry14 1 (by first | omega | decide) (by first | omega | decide)) (fun y17 s17 hy17 ry17 => ?_)
      refine xi_iastore (pc' := 26) (x' := y17) kc_90_25 rfl A14 rfl (xi_in (by decide) (by rw [hy14]; decide)) s17 (fun hh17 eh17 => ?_)
      have K18 := xk_pa K (xk_wa rfl) xD_94 hy17 ry17 eh17
      refine xi_iload_n (pc' := 27) (x := (-1)) kc_90_26 rfl rfl ?_
      refine xi_ireturn kc_90_27 mr_90 rfl ?_
      show xw J ov (d + 1) 112 (24, [(0, .ref 0), (1, .int x1)], [.int (-1)], hh17) _
      refine xi_ireturn kc_112_24 mr_112 rfl ?_
      have zcm1 : ((-1) : Int32).toInt = (-1) := by decide
      exact kk (-1) hh17 K18
    · refine xi_cmf (pc' := 10) kc_89_7 rfl (xc_ge_f (X := x1.toInt) (Y := 6) rfl (by decide) (by omega)) ?_
      refine xi_iconst (pc' := 11) (v := 1) kc_89_10 rfl rfl ?_
      refine xi_goto (pc' := 15) kc_89_11 rfl ?_
      refine xi_ireturn kc_89_15 mr_89 rfl ?_
      show xw J ov (d + 1) 112 (4, [(0, .ref 0), (1, .int x1)], [.int 1], h) _
      refine xi_iff (pc' := 7) kc_112_4 rfl rfl ?_
      refine xi_aload_n (pc' := 8) (x := 0) kc_112_7 rfl rfl ?_
      refine xp_0 K.1 (fun u19 u20 bu19 bu20 A21 => ?_)
      refine xi_getfield (pc' := 11) (v := .ref 63) kc_112_8 rfl rfl rfl A21 rfl ?_
      refine xp_63 K.1 (fun u22 u23 bu22 bu23 A24 => ?_)
      refine xi_getfield (pc' := 14) (v := .ref 64) kc_112_11 rfl rfl rfl A24 rfl ?_
      refine xi_iload_n (pc' := 15) (x := x1) kc_112_14 rfl rfl ?_
      refine xcps4 (xk_arr K.1 xD_64) (fun y25 A25 hy25 ry25 => ?_)
      refine xcps4 (xj_get hy25 ry25 (i := x1) (by omega) (by omega)) (fun v26 ev26 bv26 dv26 => ?_)
      refine xi_iaload (pc' := 16) (v := v26) kc_112_15 rfl A25 (by decide) rfl (xi_in (by omega) (by rw [hy25]; omega)) ev26 ?_
      refine xi_goto (pc' := 24) kc_112_16 rfl ?_
      refine xi_ireturn kc_112_24 mr_112 rfl ?_
      exact kk v26 h K
set_option maxHeartbeats 4000000 in
theorem mt_113_0 {J : xe_J} {ov : List (List Int32)} (hJ : ∀ d mj as h, mj ≠ xe_loff → J d mj as h = none) (hov1 : ov[1]? = some [10, 0, 0, 0, 0, 0]) (hov2 : ov[2]? = some [99, 30, 50, 50, 1, 99999]) {d : Nat} {Q : Option Value → xe_H → Prop} {h : xe_H} {x1 : Int32} {x2 : Int32} {x3 : Int32} {x4 : Int32} (T : xt h) (kk : (∀ (r : Int32) (h' : xe_H), ((-6) ≤ r.toInt ∧ r.toInt ≤ 59) → xk [(0, 9), (115, 1), (83, 0), (29, 0), (31, 0), (33, 0), (35, 0), (37, 0), (39, 0), (41, 0), (43, 0), (45, 0), (47, 0), (49, 0), (51, 0), (125, 0), (115, 18), (132, 0)] h h' → Q (some (.int r)) h')) : xw J ov (d + 3) 113 (0, [(0, .ref 0), (1, .int x1), (2, .int x2), (3, .int x3), (4, .int x4)], [], h) Q := by
  have K : xk [(0, 9), (115, 1), (83, 0), (29, 0), (31, 0), (33, 0), (35, 0), (37, 0), (39, 0), (41, 0), (43, 0), (45, 0), (47, 0), (49, 0), (51, 0), (125, 0), (115, 18), (132, 0)] h h := xk_re T
  have rx1 := xc_rng x1
  have rx2 := xc_rng x2
  have rx3 := xc_rng x3
  have rx4 := xc_rng x4
  refine xi_aload_n (pc' := 1) (x := 0) kc_113_0 rfl rfl ?_
  refine xp_0 K.1 (fun u1 u2 bu1 bu2 A3 => ?_)
  refine xi_getfield (pc' := 4) (v := .ref 1) kc_113_1 rfl rfl rfl A3 rfl ?_
  refine xi_iload_n (pc' := 5) (x := x1) kc_113_4 rfl rfl ?_
  refine xp_1 K.1 (fun u4 u5 bu4 bu5 A6 => ?_)
  refine xi_virtual (mj := 108) (as := [.int x1]) (st1 := []) (lv0 := [(0, .ref 1), (1, .int x1)]) kc_113_5 rfl rfl rfl rfl rfl A6 (Nat.le_of_ble_eq_true rfl) (hJ _ _ _ _ (by decide)) (xm_le ml_108 rfl) rfl ?_
  refine xi_iload_n (pc' := 1) (x := x1) kc_108_0 rfl rfl ?_
  refine xi_static (mj := 104) (as := [.int x1]) (st1 := []) (lv0 := [(0, .int x1)]) kc_108_1 rfl rfl (Nat.le_of_ble_eq_true rfl) rfl rfl (Nat.le_of_ble_eq_true rfl) (hJ _ _ _ _ (by decide)) (xm_le ml_104 rfl) rfl ?_
  refine xi_iload_n (pc' := 1) (x := x1) kc_104_0 rfl rfl ?_
  by_cases c7 : x1.toInt < 0
  · refine xi_ift (pc' := 14) kc_104_1 rfl (xc_lt_t (X := x1.toInt) (Y := 0) rfl (by decide) (by omega)) ?_
    refine xi_iconst (pc' := 15) (v := 0) kc_104_14 rfl rfl ?_
    refine xi_ireturn kc_104_15 mr_104 rfl ?_
    show xw J ov (d + 2) 108 (4, [(0, .ref 1), (1, .int x1)], [.int 0], h) _
    refine xi_ift (pc' := 23) kc_108_4 rfl rfl ?_
    refine xi_iconst (pc' := 24) (v := 0) kc_108_23 rfl rfl ?_
    refine xi_ireturn kc_108_24 mr_108 rfl ?_
    show xw J ov (d + 3) 113 (8, [(0, .ref 0), (1, .int x1), (2, .int x2), (3, .int x3), (4, .int x4)], [.int 0], h) _
    refine xi_iff (pc' := 11) kc_113_8 rfl rfl ?_
    refine xi_aload_n (pc' := 12) (x := 0) kc_113_11 rfl rfl ?_
    refine xi_iconst (pc' := 13) (v := (-1)) kc_113_12 rfl rfl ?_
    refine xi_virtual (mj := 90) (as := [.int (-1)]) (st1 := []) (lv0 := [(0, .ref 0), (1, .int (-1))]) kc_113_13 rfl rfl rfl rfl rfl A3 (Nat.le_of_ble_eq_true rfl) (hJ _ _ _ _ (by decide)) (xm_le ml_90 rfl) rfl ?_
    refine xi_iload_n (pc' := 1) (x := (-1)) kc_90_0 rfl rfl ?_
    refine xi_ineg (pc' := 2) (v := 1) kc_90_1 rfl rfl ?_
    refine xi_istore_n (pc' := 3) (lv' := [(2, .int 1), (0, .ref 0), (1, .int (-1))]) kc_90_2 rfl rfl (xm_lt ml_90 rfl) ?_
    refine xi_iload_n (pc' := 4) (x := 1) kc_90_3 rfl rfl ?_
    refine xi_iff (pc' := 7) kc_90_4 rfl rfl ?_
    refine xi_iload_n (pc' := 8) (x := 1) kc_90_7 rfl rfl ?_
    refine xi_aload_n (pc' := 9) (x := 0) kc_90_8 rfl rfl ?_
    refine xi_getfield (pc' := 12) (v := .ref 94) kc_90_9 rfl rfl rfl A3 rfl ?_
    refine xcps4 (xk_arr K.1 xD_94) (fun y8 A8 hy8 ry8 => ?_)
    refine xi_arraylength (pc' := 13) (n := 7) (v := 7) kc_90_12 rfl (xl_lenI (by decide) (by decide) A8 hy8) rfl ?_
    refine xi_cmf (pc' := 16) kc_90_13 rfl rfl ?_
    refine xi_aload_n (pc' := 17) (x := 0) kc_90_16 rfl rfl ?_
    refine xi_getfield (pc' := 20) (v := .ref 94) kc_90_17 rfl rfl rfl A3 rfl ?_
    refine xi_iload_n (pc' := 21) (x := 1) kc_90_20 rfl rfl ?_
    refine xi_dup2 (pc' := 22) kc_90_21 rfl ⟨rfl, rfl⟩ ?_
    refine xcps4 (xj_get hy8 ry8 (i := 1) (by decide) (by decide)) (fun v9 ev9 bv9 dv9 => ?_)
    refine xi_iaload (pc' := 23) (v := v9) kc_90_22 rfl A8 (by decide) rfl (xi_in (by decide) (by rw [hy8]; decide)) ev9 ?_
    refine xi_iconst (pc' := 24) (v := 1) kc_90_23 rfl rfl ?_
    refine xcps2 (α := Int32) ((v9 : Int32) + 1) (fun v10 ev10 => ?_)
    have rv10 := xc_rng v10
    refine xi_iadd (pc' := 25) (v := v10) kc_90_24 rfl ev10 ?_
    refine xcps4 (xj_set (v := v10) hy8 ry8 1 (by first | omega | decide) (by first | omega | decide)) (fun y11 s11 hy11 ry11 => ?_)
    refine xi_iastore (pc' := 26) (x' := y11) kc_90_25 rfl A8 rfl (xi_in (by decide) (by rw [hy8]; decide)) s11 (fun hh11 eh11 => ?_)
    have K12 := xk_pa K (xk_wa rfl) xD_94 hy11 ry11 eh11
    refine xi_iload_n (pc' := 27) (x := (-1)) kc_90_26 rfl rfl ?_
    refine xi_ireturn kc_90_27 mr_90 rfl ?_
    show xw J ov (d + 3) 113 (16, [(0, .ref 0), (1, .int x1), (2, .int x2), (3, .int x3), (4, .int x4)], [.int (-1)], hh11) _
    refine xi_ireturn kc_113_16 mr_113 rfl ?_
    have zcm1 : ((-1) : Int32).toInt = (-1) := by decide
    exact kk (-1) hh11 (by omega) K12
  · refine xi_iff (pc' := 4) kc_104_1 rfl (xc_lt_f (X := x1.toInt) (Y := 0) rfl (by decide) (by omega)) ?_
    refine xi_iload_n (pc' := 5) (x := x1) kc_104_4 rfl rfl ?_
    refine xi_bipush (pc' := 7) (v := 12) kc_104_5 rfl rfl ?_
    by_cases c13 : 12 ≤ x1.toInt
    · refine xi_cmt (pc' := 14) kc_104_7 rfl (xc_ge_t (X := x1.toInt) (Y := 12) rfl (by decide) (by omega)) ?_
      refine xi_iconst (pc' := 15) (v := 0) kc_104_14 rfl rfl ?_
      refine xi_ireturn kc_104_15 mr_104 rfl ?_
      show xw J ov (d + 2) 108 (4, [(0, .ref 1), (1, .int x1)], [.int 0], h) _
      refine xi_ift (pc' := 23) kc_108_4 rfl rfl ?_
      refine xi_iconst (pc' := 24) (v := 0) kc_108_23 rfl rfl ?_
      refine xi_ireturn kc_108_24 mr_108 rfl ?_
      show xw J ov (d + 3) 113 (8, [(0, .ref 0), (1, .int x1), (2, .int x2), (3, .int x3), (4, .int x4)], [.int 0], h) _
      refine xi_iff (pc' := 11) kc_113_8 rfl rfl ?_
      refine xi_aload_n (pc' := 12) (x := 0) kc_113_11 rfl rfl ?_
      refine xi_iconst (pc' := 13) (v := (-1)) kc_113_12 rfl rfl ?_
      refine xi_virtual (mj := 90) (as := [.int (-1)]) (st1 := []) (lv0 := [(0, .ref 0), (1, .int (-1))]) kc_113_13 rfl rfl rfl rfl rfl A3 (Nat.le_of_ble_eq_true rfl) (hJ _ _ _ _ (by decide)) (xm_le ml_90 rfl) rfl ?_
      refine xi_iload_n (pc' := 1) (x := (-1)) kc_90_0 rfl rfl ?_
      refine xi_ineg (pc' := 2) (v := 1) kc_90_1 rfl rfl ?_
      refine xi_istore_n (pc' := 3) (lv' := [(2, .int 1), (0, .ref 0), (1, .int (-1))]) kc_90_2 rfl rfl (xm_lt ml_90 rfl) ?_
      refine xi_iload_n (pc' := 4) (x := 1) kc_90_3 rfl rfl ?_
      refine xi_iff (pc' := 7) kc_90_4 rfl rfl ?_
      refine xi_iload_n (pc' := 8) (x := 1) kc_90_7 rfl rfl ?_
      refine xi_aload_n (pc' := 9) (x := 0) kc_90_8 rfl rfl ?_
      refine xi_getfield (pc' := 12) (v := .ref 94) kc_90_9 rfl rfl rfl A3 rfl ?_
      refine xcps4 (xk_arr K.1 xD_94) (fun y14 A14 hy14 ry14 => ?_)
      refine xi_arraylength (pc' := 13) (n := 7) (v := 7) kc_90_12 rfl (xl_lenI (by decide) (by decide) A14 hy14) rfl ?_
      refine xi_cmf (pc' := 16) kc_90_13 rfl rfl ?_
      refine xi_aload_n (pc' := 17) (x := 0) kc_90_16 rfl rfl ?_
      refine xi_getfield (pc' := 20) (v := .ref 94) kc_90_17 rfl rfl rfl A3 rfl ?_
      refine xi_iload_n (pc' := 21) (x := 1) kc_90_20 rfl rfl ?_
      refine xi_dup2 (pc' := 22) kc_90_21 rfl ⟨rfl, rfl⟩ ?_
      refine xcps4 (xj_get hy14 ry14 (i := 1) (by decide) (by decide)) (fun v15 ev15 bv15 dv15 => ?_)
      refine xi_iaload (pc' := 23) (v := v15) kc_90_22 rfl A14 (by decide) rfl (xi_in (by decide) (by rw [hy14]; decide)) ev15 ?_
      refine xi_iconst (pc' := 24) (v := 1) kc_90_23 rfl rfl ?_
      refine xcps2 (α := Int32) ((v15 : Int32) + 1) (fun v16 ev16 => ?_)
      have rv16 := xc_rng v16
      refine xi_iadd (pc' := 25) (v := v16) kc_90_24 rfl ev16 ?_
      refine xcps4 (xj_set (v := v16) hy14 ry14 1 (by first | omega | decide) (by first | omega | decide)) (fun y17 s17 hy17 ry17 => ?_)
      refine xi_iastore (pc' := 26) (x' := y17) kc_90_25 rfl A14 rfl (xi_in (by decide) (by rw [hy14]; decide)) s17 (fun hh17 eh17 => ?_)
      have K18 := xk_pa K (xk_wa rfl) xD_94 hy17 ry17 eh17
      refine xi_iload_n (pc' := 27) (x := (-1)) kc_90_26 rfl rfl ?_
      refine xi_ireturn kc_90_27 mr_90 rfl ?_
      show xw J ov (d + 3) 113 (16, [(0, .ref 0), (1, .int x1), (2, .int x2), (3, .int x3), (4, .int x4)], [.int (-1)], hh17) _
      refine xi_ireturn kc_113_16 mr_113 rfl ?_
      have zcm1 : ((-1) : Int32).toInt = (-1) := by decide
      exact kk (-1) hh17 (by omega) K18
    · refine xi_cmf (pc' := 10) kc_104_7 rfl (xc_ge_f (X := x1.toInt) (Y := 12) rfl (by decide) (by omega)) ?_
      refine xi_iconst (pc' := 11) (v := 1) kc_104_10 rfl rfl ?_
      refine xi_goto (pc' := 15) kc_104_11 rfl ?_
      refine xi_ireturn kc_104_15 mr_104 rfl ?_
      show xw J ov (d + 2) 108 (4, [(0, .ref 1), (1, .int x1)], [.int 1], h) _
      refine xi_iff (pc' := 7) kc_108_4 rfl rfl ?_
      refine xi_aload_n (pc' := 8) (x := 1) kc_108_7 rfl rfl ?_
      refine xi_getfield (pc' := 11) (v := .ref 3) kc_108_8 rfl rfl rfl A6 rfl ?_
      refine xi_iload_n (pc' := 12) (x := x1) kc_108_11 rfl rfl ?_
      have A19 := xk_ex K.1 xD_3
      obtain ⟨pt20, ept20, mpt20⟩ := xR_3 (i := x1) (by omega) (by omega)
      refine xj_aaload (pc' := 13) (b := pt20) kc_108_12 rfl A19 rfl (xi_in (n := 12) (by omega) (by omega)) ept20 ?_
      obtain ⟨u21, u22, u23, u24, pt25, bu21, bu22, bu23, bu24, mpt25, A26⟩ := xg_wall K.1 mpt20
      refine xi_virtual (mj := 105) (as := []) (st1 := []) (lv0 := [(0, .ref pt20)]) kc_108_13 rfl rfl rfl rfl rfl A26 (Nat.le_of_ble_eq_true rfl) (hJ _ _ _ _ (by decide)) (xm_le ml_105 rfl) rfl ?_
      refine xi_aload_n (pc' := 1) (x := pt20) kc_105_0 rfl rfl ?_
      refine xi_getfield (pc' := 4) (v := .int u21) kc_105_1 rfl rfl rfl A26 rfl ?_
      refine xi_static (mj := 89) (as := [.int u21]) (st1 := []) (lv0 := [(0, .int u21)]) kc_105_4 rfl rfl (Nat.le_of_ble_eq_true rfl) rfl rfl (Nat.le_of_ble_eq_true rfl) (hJ _ _ _ _ (by decide)) (xm_le ml_89 rfl) rfl ?_
      refine xi_iload_n (pc' := 1) (x := u21) kc_89_0 rfl rfl ?_
      by_cases c27 : u21.toInt < 0
      · refine xi_ift (pc' := 14) kc_89_1 rfl (xc_lt_t (X := u21.toInt) (Y := 0) rfl (by decide) (by omega)) ?_
        refine xi_iconst (pc' := 15) (v := 0) kc_89_14 rfl rfl ?_
        refine xi_ireturn kc_89_15 mr_89 rfl ?_
        show xw J ov (d + 1) 105 (7, [(0, .ref pt20)], [.int 0], h) _
        refine xi_ireturn kc_105_7 mr_105 rfl ?_
        show xw J ov (d + 2) 108 (16, [(0, .ref 1), (1, .int x1)], [.int 0], h) _
        refine xi_ift (pc' := 23) kc_108_16 rfl rfl ?_
        refine xi_iconst (pc' := 24) (v := 0) kc_108_23 rfl rfl ?_
        refine xi_ireturn kc_108_24 mr_108 rfl ?_
        show xw J ov (d + 3) 113 (8, [(0, .ref 0), (1, .int x1), (2, .int x2), (3, .int x3), (4, .int x4)], [.int 0], h) _
        refine xi_iff (pc' := 11) kc_113_8 rfl rfl ?_
        refine xi_aload_n (pc' := 12) (x := 0) kc_113_11 rfl rfl ?_
        refine xi_iconst (pc' := 13) (v := (-1)) kc_113_12 rfl rfl ?_
        refine xi_virtual (mj := 90) (as := [.int (-1)]) (st1 := []) (lv0 := [(0, .ref 0), (1, .int (-1))]) kc_113_13 rfl rfl rfl rfl rfl A3 (Nat.le_of_ble_eq_true rfl) (hJ _ _ _ _ (by decide)) (xm_le ml_90 rfl) rfl ?_
        refine xi_iload_n (pc' := 1) (x := (-1)) kc_90_0 rfl rfl ?_
        refine xi_ineg (pc' := 2) (v := 1) kc_90_1 rfl rfl ?_
        refine xi_istore_n (pc' := 3) (lv' := [(2, .int 1), (0, .ref 0), (1, .int (-1))]) kc_90_2 rfl rfl (xm_lt ml_90 rfl) ?_
        refine xi_iload_n (pc' := 4) (x := 1) kc_90_3 rfl rfl ?_
        refine xi_iff (pc' := 7) kc_90_4 rfl rfl ?_
        refine xi_iload_n (pc' := 8) (x := 1) kc_90_7 rfl rfl ?_
        refine xi_aload_n (pc' := 9) (x := 0) kc_90_8 rfl rfl ?_
        refine xi_getfield (pc' := 12) (v := .ref 94) kc_90_9 rfl rfl rfl A3 rfl ?_
        refine xcps4 (xk_arr K.1 xD_94) (fun y28 A28 hy28 ry28 => ?_)
        refine xi_arraylength (pc' := 13) (n := 7) (v := 7) kc_90_12 rfl (xl_lenI (by decide) (by decide) A28 hy28) rfl ?_
        refine xi_cmf (pc' := 16) kc_90_13 rfl rfl ?_
        refine xi_aload_n (pc' := 17) (x := 0) kc_90_16 rfl rfl ?_
        refine xi_getfield (pc' := 20) (v := .ref 94) kc_90_17 rfl rfl rfl A3 rfl ?_
        refine xi_iload_n (pc' := 21) (x := 1) kc_90_20 rfl rfl ?_
        refine xi_dup2 (pc' := 22) kc_90_21 rfl ⟨rfl, rfl⟩ ?_
        refine xcps4 (xj_get hy28 ry28 (i := 1) (by decide) (by decide)) (fun v29 ev29 bv29 dv29 => ?_)
        refine xi_iaload (pc' := 23) (v := v29) kc_90_22 rfl A28 (by decide) rfl (xi_in (by decide) (by rw [hy28]; decide)) ev29 ?_
        refine xi_iconst (pc' := 24) (v := 1) kc_90_23 rfl rfl ?_
        refine xcps2 (α := Int32) ((v29 : Int32) + 1) (fun v30 ev30 => ?_)
        have rv30 := xc_rng v30
        refine xi_iadd (pc' := 25) (v := v30) kc_90_24 rfl ev30 ?_
        refine xcps4 (xj_set (v := v30) hy28 ry28 1 (by first | omega | decide) (by first | omega | decide)) (fun y31 s31 hy31 ry31 => ?_)
        refine xi_iastore (pc' := 26) (x' := y31) kc_90_25 rfl A28 rfl (xi_in (by decide) (by rw [hy28]; decide)) s31 (fun hh31 eh31 => ?_)
        have K32 := xk_pa K (xk_wa rfl) xD_94 hy31 ry31 eh31
        refine xi_iload_n (pc' := 27) (x := (-1)) kc_90_26 rfl rfl ?_
        refine xi_ireturn kc_90_27 mr_90 rfl ?_
        show xw J ov (d + 3) 113 (16, [(0, .ref 0), (1, .int x1), (2, .int x2), (3, .int x3), (4, .int x4)], [.int (-1)], hh31) _
        refine xi_ireturn kc_113_16 mr_113 rfl ?_
        have zcm1 : ((-1) : Int32).toInt = (-1) := by decide
        exact kk (-1) hh31 (by omega) K32
      · refine xi_iff (pc' := 4) kc_89_1 rfl (xc_lt_f (X := u21.toInt) (Y := 0) rfl (by decide) (by omega)) ?_
        refine xi_iload_n (pc' := 5) (x := u21) kc_89_4 rfl rfl ?_
        refine xi_bipush (pc' := 7) (v := 6) kc_89_5 rfl rfl ?_
        by_cases c33 : 6 ≤ u21.toInt
        · refine xi_cmt (pc' := 14) kc_89_7 rfl (xc_ge_t (X := u21.toInt) (Y := 6) rfl (by decide) (by omega)) ?_
          refine xi_iconst (pc' := 15) (v := 0) kc_89_14 rfl rfl ?_
          refine xi_ireturn kc_89_15 mr_89 rfl ?_
          show xw J ov (d + 1) 105 (7, [(0, .ref pt20)], [.int 0], h) _
          refine xi_ireturn kc_105_7 mr_105 rfl ?_
          show xw J ov (d + 2) 108 (16, [(0, .ref 1), (1, .int x1)], [.int 0], h) _
          refine xi_ift (pc' := 23) kc_108_16 rfl rfl ?_
          refine xi_iconst (pc' := 24) (v := 0) kc_108_23 rfl rfl ?_
          refine xi_ireturn kc_108_24 mr_108 rfl ?_
          show xw J ov (d + 3) 113 (8, [(0, .ref 0), (1, .int x1), (2, .int x2), (3, .int x3), (4, .int x4)], [.int 0], h) _
          refine xi_iff (pc' := 11) kc_113_8 rfl rfl ?_
          refine xi_aload_n (pc' := 12) (x := 0) kc_113_11 rfl rfl ?_
          refine xi_iconst (pc' := 13) (v := (-1)) kc_113_12 rfl rfl ?_
          refine xi_virtual (mj := 90) (as := [.int (-1)]) (st1 := []) (lv0 := [(0, .ref 0), (1, .int (-1))]) kc_113_13 rfl rfl rfl rfl rfl A3 (Nat.le_of_ble_eq_true rfl) (hJ _ _ _ _ (by decide)) (xm_le ml_90 rfl) rfl ?_
          refine xi_iload_n (pc' := 1) (x := (-1)) kc_90_0 rfl rfl ?_
          refine xi_ineg (pc' := 2) (v := 1) kc_90_1 rfl rfl ?_
          refine xi_istore_n (pc' := 3) (lv' := [(2, .int 1), (0, .ref 0), (1, .int (-1))]) kc_90_2 rfl rfl (xm_lt ml_90 rfl) ?_
          refine xi_iload_n (pc' := 4) (x := 1) kc_90_3 rfl rfl ?_
          refine xi_iff (pc' := 7) kc_90_4 rfl rfl ?_
          refine xi_iload_n (pc' := 8) (x := 1) kc_90_7 rfl rfl ?_
          refine xi_aload_n (pc' := 9) (x := 0) kc_90_8 rfl rfl ?_
          refine xi_getfield (pc' := 12) (v := .ref 94) kc_90_9 rfl rfl rfl A3 rfl ?_
          refine xcps4 (xk_arr K.1 xD_94) (fun y34 A34 hy34 ry34 => ?_)
          refine xi_arraylength (pc' := 13) (n := 7) (v := 7) kc_90_12 rfl (xl_lenI (by decide) (by decide) A34 hy34) rfl ?_
          refine xi_cmf (pc' := 16) kc_90_13 rfl rfl ?_
          refine xi_aload_n (pc' := 17) (x := 0) kc_90_16 rfl rfl ?_
          refine xi_getfield (pc' := 20) (v := .ref 94) kc_90_17 rfl rfl rfl A3 rfl ?_
          refine xi_iload_n (pc' := 21) (x := 1) kc_90_20 rfl rfl ?_
          refine xi_dup2 (pc' := 22) kc_90_21 rfl ⟨rfl, rfl⟩ ?_
          refine xcps4 (xj_get hy34 ry34 (i := 1) (by decide) (by decide)) (fun v35 ev35 bv35 dv35 => ?_)
          refine xi_iaload (pc' := 23) (v := v35) kc_90_22 rfl A34 (by decide) rfl (xi_in (by decide) (by rw [hy34]; decide)) ev35 ?_
          refine xi_iconst (pc' := 24) (v := 1) kc_90_23 rfl rfl ?_
          refine xcps2 (α := Int32) ((v35 : Int32) + 1) (fun v36 ev36 => ?_)
          have rv36 := xc_rng v36
          refine xi_iadd (pc' := 25) (v := v36) kc_90_24 rfl ev36 ?_
          refine xcps4 (xj_set (v := v36) hy34 ry34 1 (by first | omega | decide) (by first | omega | decide)) (fun y37 s37 hy37 ry37 => ?_)
          refine xi_iastore (pc' := 26) (x' := y37) kc_90_25 rfl A34 rfl (xi_in (by decide) (by rw [hy34]; decide)) s37 (fun hh37 eh37 => ?_)
          have K38 := xk_pa K (xk_wa rfl) xD_94 hy37 ry37 eh37
          refine xi_iload_n (pc' := 27) (x := (-1)) kc_90_26 rfl rfl ?_
          refine xi_ireturn kc_90_27 mr_90 rfl ?_
          show xw J ov (d + 3) 113 (16, [(0, .ref 0), (1, .int x1), (2, .int x2), (3, .int x3), (4, .int x4)], [.int (-1)], hh37) _
          refine xi_ireturn kc_113_16 mr_113 rfl ?_
          have zcm1 : ((-1) : Int32).toInt = (-1) := by decide
          exact kk (-1) hh37 (by omega) K38
        · refine xi_cmf (pc' := 10) kc_89_7 rfl (xc_ge_f (X := u21.toInt) (Y := 6) rfl (by decide) (by omega)) ?_
          refine xi_iconst (pc' := 11) (v := 1) kc_89_10 rfl rfl ?_
          refine xi_goto (pc' := 15) kc_89_11 rfl ?_
          refine xi_ireturn kc_89_15 mr_89 rfl ?_
          show xw J ov (d + 1) 105 (7, [(0, .ref pt20)], [.int 1], h) _
          refine xi_ireturn kc_105_7 mr_105 rfl ?_
          show xw J ov (d + 2) 108 (16, [(0, .ref 1), (1, .int x1)], [.int 1], h) _
          refine xi_iff (pc' := 19) kc_108_16 rfl rfl ?_
          refine xi_iconst (pc' := 20) (v := 1) kc_108_19 rfl rfl ?_
          refine xi_goto (pc' := 24) kc_108_20 rfl ?_
          refine xi_ireturn kc_108_24 mr_108 rfl ?_
          show xw J ov (d + 3) 113 (8, [(0, .ref 0), (1, .int x1), (2, .int x2), (3, .int x3), (4, .int x4)], [.int 1], h) _
          refine xi_ift (pc' := 17) kc_113_8 rfl rfl ?_
          refine xi_iload_n (pc' := 18) (x := x2) kc_113_17 rfl rfl ?_
          refine xi_aload_n (pc' := 19) (x := 0) kc_113_18 rfl rfl ?_
          refine xi_getfield (pc' := 22) (v := .int u2) kc_113_19 rfl rfl rfl A3 rfl ?_
          by_cases c39 : u2.toInt < x2.toInt
          · refine xi_cmt (pc' := 36) kc_113_22 rfl (xc_gt_t (X := x2.toInt) (Y := u2.toInt) rfl rfl (by omega)) ?_
            refine xi_aload_n (pc' := 37) (x := 0) kc_113_36 rfl rfl ?_
            refine xi_bipush (pc' := 39) (v := (-3)) kc_113_37 rfl rfl ?_
            refine xi_virtual (mj := 90) (as := [.int (-3)]) (st1 := []) (lv0 := [(0, .ref 0), (1, .int (-3))]) kc_113_39 rfl rfl rfl rfl rfl A3 (Nat.le_of_ble_eq_true rfl) (hJ _ _ _ _ (by decide)) (xm_le ml_90 rfl) rfl ?_
            refine xi_iload_n (pc' := 1) (x := (-3)) kc_90_0 rfl rfl ?_
            refine xi_ineg (pc' := 2) (v := 3) kc_90_1 rfl rfl ?_
            refine xi_istore_n (pc' := 3) (lv' := [(2, .int 3), (0, .ref 0), (1, .int (-3))]) kc_90_2 rfl rfl (xm_lt ml_90 rfl) ?_
            refine xi_iload_n (pc' := 4) (x := 3) kc_90_3 rfl rfl ?_
            refine xi_iff (pc' := 7) kc_90_4 rfl rfl ?_
            refine xi_iload_n (pc' := 8) (x := 3) kc_90_7 rfl rfl ?_
            refine xi_aload_n (pc' := 9) (x := 0) kc_90_8 rfl rfl ?_
            refine xi_getfield (pc' := 12) (v := .ref 94) kc_90_9 rfl rfl rfl A3 rfl ?_
            refine xcps4 (xk_arr K.1 xD_94) (fun y40 A40 hy40 ry40 => ?_)
            refine xi_arraylength (pc' := 13) (n := 7) (v := 7) kc_90_12 rfl (xl_lenI (by decide) (by decide) A40 hy40) rfl ?_
            refine xi_cmf (pc' := 16) kc_90_13 rfl rfl ?_
            refine xi_aload_n (pc' := 17) (x := 0) kc_90_16 rfl rfl ?_
            refine xi_getfield (pc' := 20) (v := .ref 94) kc_90_17 rfl rfl rfl A3 rfl ?_
            refine xi_iload_n (pc' := 21) (x := 3) kc_90_20 rfl rfl ?_
            refine xi_dup2 (pc' := 22) kc_90_21 rfl ⟨rfl, rfl⟩ ?_
            refine xcps4 (xj_get hy40 ry40 (i := 3) (by decide) (by decide)) (fun v41 ev41 bv41 dv41 => ?_)
            refine xi_iaload (pc' := 23) (v := v41) kc_90_22 rfl A40 (by decide) rfl (xi_in (by decide) (by rw [hy40]; decide)) ev41 ?_
            refine xi_iconst (pc' := 24) (v := 1) kc_90_23 rfl rfl ?_
            refine xcps2 (α := Int32) ((v41 : Int32) + 1) (fun v42 ev42 => ?_)
            have rv42 := xc_rng v42
            refine xi_iadd (pc' := 25) (v := v42) kc_90_24 rfl ev42 ?_
            refine xcps4 (xj_set (v := v42) hy40 ry40 3 (by first | omega | decide) (by first | omega | decide)) (fun y43 s43 hy43 ry43 => ?_)
            refine xi_iastore (pc' := 26) (x' := y43) kc_90_25 rfl A40 rfl (xi_in (by decide) (by rw [hy40]; decide)) s43 (fun hh43 eh43 => ?_)
            have K44 := xk_pa K (xk_wa rfl) xD_94 hy43 ry43 eh43
            refine xi_iload_n (pc' := 27) (x := (-3)) kc_90_26 rfl rfl ?_
            refine xi_ireturn kc_90_27 mr_90 rfl ?_
            show xw J ov (d + 3) 113 (42, [(0, .ref 0), (1, .int x1), (2, .int x2), (3, .int x3), (4, .int x4)], [.int (-3)], hh43) _
            refine xi_ireturn kc_113_42 mr_113 rfl ?_
            have zcm3 : ((-3) : Int32).toInt = (-3) := by decide
            exact kk (-3) hh43 (by omega) K44
          · refine xi_cmf (pc' := 25) kc_113_22 rfl (xc_gt_f (X := x2.toInt) (Y := u2.toInt) rfl rfl (by omega)) ?_
            refine xi_aload_n (pc' := 26) (x := 0) kc_113_25 rfl rfl ?_
            refine xi_getfield (pc' := 29) (v := .ref 66) kc_113_26 rfl rfl rfl A3 rfl ?_
            refine xi_iload_n (pc' := 30) (x := x2) kc_113_29 rfl rfl ?_
            refine xp_66 K.1 (fun u46 wl45 bu46 A47 => ?_)
            refine xi_virtual (mj := 114) (as := [.int x2]) (st1 := []) (lv0 := [(0, .ref 66), (1, .int x2)]) kc_113_30 rfl rfl rfl rfl rfl A47 (Nat.le_of_ble_eq_true rfl) (hJ _ _ _ _ (by decide)) (xm_le ml_114 rfl) rfl ?_
            refine xi_aload_n (pc' := 1) (x := 66) kc_114_0 rfl rfl ?_
            refine xi_getfield (pc' := 4) (v := .int u46) kc_114_1 rfl rfl rfl A47 rfl ?_
            by_cases c48 : u46.toInt ≤ 0
            · refine xi_ift (pc' := 35) kc_114_4 rfl (xc_le_t (X := u46.toInt) (Y := 0) rfl (by decide) (by omega)) ?_
              refine xi_iconst (pc' := 36) (v := 0) kc_114_35 rfl rfl ?_
              refine xi_ireturn kc_114_36 mr_114 rfl ?_
              show xw J ov (d + 3) 113 (33, [(0, .ref 0), (1, .int x1), (2, .int x2), (3, .int x3), (4, .int x4)], [.int 0], h) _
              refine xi_ift (pc' := 43) kc_113_33 rfl rfl ?_
              refine xi_iload_n (pc' := 44) (x := x2) kc_113_43 rfl rfl ?_
              by_cases c49 : x2.toInt < 0
              · refine xi_ift (pc' := 56) kc_113_44 rfl (xc_lt_t (X := x2.toInt) (Y := 0) rfl (by decide) (by omega)) ?_
                refine xi_aload_n (pc' := 57) (x := 0) kc_113_56 rfl rfl ?_
                refine xi_bipush (pc' := 59) (v := (-4)) kc_113_57 rfl rfl ?_
                refine xi_virtual (mj := 90) (as := [.int (-4)]) (st1 := []) (lv0 := [(0, .ref 0), (1, .int (-4))]) kc_113_59 rfl rfl rfl rfl rfl A3 (Nat.le_of_ble_eq_true rfl) (hJ _ _ _ _ (by decide)) (xm_le ml_90 rfl) rfl ?_
                refine xi_iload_n (pc' := 1) (x := (-4)) kc_90_0 rfl rfl ?_
                refine xi_ineg (pc' := 2) (v := 4) kc_90_1 rfl rfl ?_
                refine xi_istore_n (pc' := 3) (lv' := [(2, .int 4), (0, .ref 0), (1, .int (-4))]) kc_90_2 rfl rfl (xm_lt ml_90 rfl) ?_
                refine xi_iload_n (pc' := 4) (x := 4) kc_90_3 rfl rfl ?_
                refine xi_iff (pc' := 7) kc_90_4 rfl rfl ?_
                refine xi_iload_n (pc' := 8) (x := 4) kc_90_7 rfl rfl ?_
                refine xi_aload_n (pc' := 9) (x := 0) kc_90_8 rfl rfl ?_
                refine xi_getfield (pc' := 12) (v := .ref 94) kc_90_9 rfl rfl rfl A3 rfl ?_
                refine xcps4 (xk_arr K.1 xD_94) (fun y50 A50 hy50 ry50 => ?_)
                refine xi_arraylength (pc' := 13) (n := 7) (v := 7) kc_90_12 rfl (xl_lenI (by decide) (by decide) A50 hy50) rfl ?_
                refine xi_cmf (pc' := 16) kc_90_13 rfl rfl ?_
                refine xi_aload_n (pc' := 17) (x := 0) kc_90_16 rfl rfl ?_
                refine xi_getfield (pc' := 20) (v := .ref 94) kc_90_17 rfl rfl rfl A3 rfl ?_
                refine xi_iload_n (pc' := 21) (x := 4) kc_90_20 rfl rfl ?_
                refine xi_dup2 (pc' := 22) kc_90_21 rfl ⟨rfl, rfl⟩ ?_
                refine xcps4 (xj_get hy50 ry50 (i := 4) (by decide) (by decide)) (fun v51 ev51 bv51 dv51 => ?_)
                refine xi_iaload (pc' := 23) (v := v51) kc_90_22 rfl A50 (by decide) rfl (xi_in (by decide) (by rw [hy50]; decide)) ev51 ?_
                refine xi_iconst (pc' := 24) (v := 1) kc_90_23 rfl rfl ?_
                refine xcps2 (α := Int32) ((v51 : Int32) + 1) (fun v52 ev52 => ?_)
                have rv52 := xc_rng v52
                refine xi_iadd (pc' := 25) (v := v52) kc_90_24 rfl ev52 ?_
                refine xcps4 (xj_set (v := v52) hy50 ry50 4 (by first | omega | decide) (by first | omega | decide)) (fun y53 s53 hy53 ry53 => ?_)
                refine xi_iastore (pc' := 26) (x' := y53) kc_90_25 rfl A50 rfl (xi_in (by decide) (by rw [hy50]; decide)) s53 (fun hh53 eh53 => ?_)
                have K54 := xk_pa K (xk_wa rfl) xD_94 hy53 ry53 eh53
                refine xi_iload_n (pc' := 27) (x := (-4)) kc_90_26 rfl rfl ?_
                refine xi_ireturn kc_90_27 mr_90 rfl ?_
                show xw J ov (d + 3) 113 (62, [(0, .ref 0), (1, .int x1), (2, .int x2), (3, .int x3), (4, .int x4)], [.int (-4)], hh53) _
                refine xi_ireturn kc_113_62 mr_113 rfl ?_
                have zcm4 : ((-4) : Int32).toInt = (-4) := by decide
                exact kk (-4) hh53 (by omega) K54
              · refine xi_iff (pc' := 47) kc_113_44 rfl (xc_lt_f (X := x2.toInt) (Y := 0) rfl (by decide) (by omega)) ?_
                refine xi_iload_n (pc' := 48) (x := x3) kc_113_47 rfl rfl ?_
                by_cases c55 : x3.toInt < 0
                · refine xi_ift (pc' := 56) kc_113_48 rfl (xc_lt_t (X := x3.toInt) (Y := 0) rfl (by decide) (by omega)) ?_
                  refine xi_aload_n (pc' := 57) (x := 0) kc_113_56 rfl rfl ?_
                  refine xi_bipush (pc' := 59) (v := (-4)) kc_113_57 rfl rfl ?_
                  refine xi_virtual (mj := 90) (as := [.int (-4)]) (st1 := []) (lv0 := [(0, .ref 0), (1, .int (-4))]) kc_113_59 rfl rfl rfl rfl rfl A3 (Nat.le_of_ble_eq_true rfl) (hJ _ _ _ _ (by decide)) (xm_le ml_90 rfl) rfl ?_
                  refine xi_iload_n (pc' := 1) (x := (-4)) kc_90_0 rfl rfl ?_
                  refine xi_ineg (pc' := 2) (v := 4) kc_90_1 rfl rfl ?_
                  refine xi_istore_n (pc' := 3) (lv' := [(2, .int 4), (0, .ref 0), (1, .int (-4))]) kc_90_2 rfl rfl (xm_lt ml_90 rfl) ?_
                  refine xi_iload_n (pc' := 4) (x := 4) kc_90_3 rfl rfl ?_
                  refine xi_iff (pc' := 7) kc_90_4 rfl rfl ?_
                  refine xi_iload_n (pc' := 8) (x := 4) kc_90_7 rfl rfl ?_
                  refine xi_aload_n (pc' := 9) (x := 0) kc_90_8 rfl rfl ?_
                  refine xi_getfield (pc' := 12) (v := .ref 94) kc_90_9 rfl rfl rfl A3 rfl ?_
                  refine xcps4 (xk_arr K.1 xD_94) (fun y56 A56 hy56 ry56 => ?_)
                  refine xi_arraylength (pc' := 13) (n := 7) (v := 7) kc_90_12 rfl (xl_lenI (by decide) (by decide) A56 hy56) rfl ?_
                  refine xi_cmf (pc' := 16) kc_90_13 rfl rfl ?_
                  refine xi_aload_n (pc' := 17) (x := 0) kc_90_16 rfl rfl ?_
                  refine xi_getfield (pc' := 20) (v := .ref 94) kc_90_17 rfl rfl rfl A3 rfl ?_
                  refine xi_iload_n (pc' := 21) (x := 4) kc_90_20 rfl rfl ?_
                  refine xi_dup2 (pc' := 22) kc_90_21 rfl ⟨rfl, rfl⟩ ?_
                  refine xcps4 (xj_get hy56 ry56 (i := 4) (by decide) (by decide)) (fun v57 ev57 bv57 dv57 => ?_)
                  refine xi_iaload (pc' := 23) (v := v57) kc_90_22 rfl A56 (by decide) rfl (xi_in (by decide) (by rw [hy56]; decide)) ev57 ?_
                  refine xi_iconst (pc' := 24) (v := 1) kc_90_23 rfl rfl ?_
                  refine xcps2 (α := Int32) ((v57 : Int32) + 1) (fun v58 ev58 => ?_)
                  have rv58 := xc_rng v58
                  refine xi_iadd (pc' := 25) (v := v58) kc_90_24 rfl ev58 ?_
                  refine xcps4 (xj_set (v := v58) hy56 ry56 4 (by first | omega | decide) (by first | omega | decide)) (fun y59 s59 hy59 ry59 => ?_)
                  refine xi_iastore (pc' := 26) (x' := y59) kc_90_25 rfl A56 rfl (xi_in (by decide) (by rw [hy56]; decide)) s59 (fun hh59 eh59 => ?_)
                  have K60 := xk_pa K (xk_wa rfl) xD_94 hy59 ry59 eh59
                  refine xi_iload_n (pc' := 27) (x := (-4)) kc_90_26 rfl rfl ?_
                  refine xi_ireturn kc_90_27 mr_90 rfl ?_
                  show xw J ov (d + 3) 113 (62, [(0, .ref 0), (1, .int x1), (2, .int x2), (3, .int x3), (4, .int x4)], [.int (-4)], hh59) _
                  refine xi_ireturn kc_113_62 mr_113 rfl ?_
                  have zcm4 : ((-4) : Int32).toInt = (-4) := by decide
                  exact kk (-4) hh59 (by omega) K60
                · refine xi_iff (pc' := 51) kc_113_48 rfl (xc_lt_f (X := x3.toInt) (Y := 0) rfl (by decide) (by omega)) ?_
                  refine xi_iload (pc' := 53) (x := x4) kc_113_51 rfl rfl ?_
                  by_cases c61 : 0 ≤ x4.toInt
                  · refine xi_ift (pc' := 63) kc_113_53 rfl (xc_ge_t (X := x4.toInt) (Y := 0) rfl (by decide) (by omega)) ?_
                    refine xi_iload_n (pc' := 64) (x := x3) kc_113_63 rfl rfl ?_
                    refine xi_ldc (pc' := 66) (v := 99999) kc_113_64 rfl rfl ?_
                    by_cases c62 : 99999 < x3.toInt
                    · refine xi_cmt (pc' := 89) kc_113_66 rfl (xc_gt_t (X := x3.toInt) (Y := 99999) rfl (by decide) (by omega)) ?_
                      refine xi_aload_n (pc' := 90) (x := 0) kc_113_89 rfl rfl ?_
                      refine xi_bipush (pc' := 92) (v := (-6)) kc_113_90 rfl rfl ?_
                      refine xi_virtual (mj := 90) (as := [.int (-6)]) (st1 := []) (lv0 := [(0, .ref 0), (1, .int (-6))]) kc_113_92 rfl rfl rfl rfl rfl A3 (Nat.le_of_ble_eq_true rfl) (hJ _ _ _ _ (by decide)) (xm_le ml_90 rfl) rfl ?_
                      refine xi_iload_n (pc' := 1) (x := (-6)) kc_90_0 rfl rfl ?_
                      refine xi_ineg (pc' := 2) (v := 6) kc_90_1 rfl rfl ?_
                      refine xi_istore_n (pc' := 3) (lv' := [(2, .int 6), (0, .ref 0), (1, .int (-6))]) kc_90_2 rfl rfl (xm_lt ml_90 rfl) ?_
                      refine xi_iload_n (pc' := 4) (x := 6) kc_90_3 rfl rfl ?_
                      refine xi_iff (pc' := 7) kc_90_4 rfl rfl ?_
                      refine xi_iload_n (pc' := 8) (x := 6) kc_90_7 rfl rfl ?_
                      refine xi_aload_n (pc' := 9) (x := 0) kc_90_8 rfl rfl ?_
                      refine xi_getfield (pc' := 12) (v := .ref 94) kc_90_9 rfl rfl rfl A3 rfl ?_
                      refine xcps4 (xk_arr K.1 xD_94) (fun y63 A63 hy63 ry63 => ?_)
                      refine xi_arraylength (pc' := 13) (n := 7) (v := 7) kc_90_12 rfl (xl_lenI (by decide) (by decide) A63 hy63) rfl ?_
                      refine xi_cmf (pc' := 16) kc_90_13 rfl rfl ?_
                      refine xi_aload_n (pc' := 17) (x := 0) kc_90_16 rfl rfl ?_
                      refine xi_getfield (pc' := 20) (v := .ref 94) kc_90_17 rfl rfl rfl A3 rfl ?_
                      refine xi_iload_n (pc' := 21) (x := 6) kc_90_20 rfl rfl ?_
                      refine xi_dup2 (pc' := 22) kc_90_21 rfl ⟨rfl, rfl⟩ ?_
                      refine xcps4 (xj_get hy63 ry63 (i := 6) (by decide) (by decide)) (fun v64 ev64 bv64 dv64 => ?_)
                      refine xi_iaload (pc' := 23) (v := v64) kc_90_22 rfl A63 (by decide) rfl (xi_in (by decide) (by rw [hy63]; decide)) ev64 ?_
                      refine xi_iconst (pc' := 24) (v := 1) kc_90_23 rfl rfl ?_
                      refine xcps2 (α := Int32) ((v64 : Int32) + 1) (fun v65 ev65 => ?_)
                      have rv65 := xc_rng v65
                      refine xi_iadd (pc' := 25) (v := v65) kc_90_24 rfl ev65 ?_
                      refine xcps4 (xj_set (v := v65) hy63 ry63 6 (by first | omega | decide) (by first | omega | decide)) (fun y66 s66 hy66 ry66 => ?_)
                      refine xi_iastore (pc' := 26) (x' := y66) kc_90_25 rfl A63 rfl (xi_in (by decide) (by rw [hy63]; decide)) s66 (fun hh66 eh66 => ?_)
                      have K67 := xk_pa K (xk_wa rfl) xD_94 hy66 ry66 eh66
                      refine xi_iload_n (pc' := 27) (x := (-6)) kc_90_26 rfl rfl ?_
                      refine xi_ireturn kc_90_27 mr_90 rfl ?_
                      show xw J ov (d + 3) 113 (95, [(0, .ref 0), (1, .int x1), (2, .int x2), (3, .int x3), (4, .int x4)], [.int (-6)], hh66) _
                      refine xi_ireturn kc_113_95 mr_113 rfl ?_
                      have zcm6 : ((-6) : Int32).toInt = (-6) := by decide
                      exact kk (-6) hh66 (by omega) K67
                    · refine xi_cmf (pc' := 69) kc_113_66 rfl (xc_gt_f (X := x3.toInt) (Y := 99999) rfl (by decide) (by omega)) ?_
                      refine xi_iload (pc' := 71) (x := x4) kc_113_69 rfl rfl ?_
                      refine xi_sipush (pc' := 74) (v := 999) kc_113_71 rfl rfl ?_
                      by_cases c68 : 999 < x4.toInt
                      · refine xi_cmt (pc' := 89) kc_113_74 rfl (xc_gt_t (X := x4.toInt) (Y := 999) rfl (by decide) (by omega)) ?_
                        refine xi_aload_n (pc' := 90) (x := 0) kc_113_89 rfl rfl ?_
                        refine xi_bipush (pc' := 92) (v := (-6)) kc_113_90 rfl rfl ?_
                        refine xi_virtual (mj := 90) (as := [.int (-6)]) (st1 := []) (lv0 := [(0, .ref 0), (1, .int (-6))]) kc_113_92 rfl rfl rfl rfl rfl A3 (Nat.le_of_ble_eq_true rfl) (hJ _ _ _ _ (by decide)) (xm_le ml_90 rfl) rfl ?_
                        refine xi_iload_n (pc' := 1) (x := (-6)) kc_90_0 rfl rfl ?_
                        refine xi_ineg (pc' := 2) (v := 6) kc_90_1 rfl rfl ?_
                        refine xi_istore_n (pc' := 3) (lv' := [(2, .int 6), (0, .ref 0), (1, .int (-6))]) kc_90_2 rfl rfl (xm_lt ml_90 rfl) ?_
                        refine xi_iload_n (pc' := 4) (x := 6) kc_90_3 rfl rfl ?_
                        refine xi_iff (pc' := 7) kc_90_4 rfl rfl ?_
                        refine xi_iload_n (pc' := 8) (x := 6) kc_90_7 rfl rfl ?_
                        refine xi_aload_n (pc' := 9) (x := 0) kc_90_8 rfl rfl ?_
                        refine xi_getfield (pc' := 12) (v := .ref 94) kc_90_9 rfl rfl rfl A3 rfl ?_
                        refine xcps4 (xk_arr K.1 xD_94) (fun y69 A69 hy69 ry69 => ?_)
                        refine xi_arraylength (pc' := 13) (n := 7) (v := 7) kc_90_12 rfl (xl_lenI (by decide) (by decide) A69 hy69) rfl ?_
                        refine xi_cmf (pc' := 16) kc_90_13 rfl rfl ?_
                        refine xi_aload_n (pc' := 17) (x := 0) kc_90_16 rfl rfl ?_
                        refine xi_getfield (pc' := 20) (v := .ref 94) kc_90_17 rfl rfl rfl A3 rfl ?_
                        refine xi_iload_n (pc' := 21) (x := 6) kc_90_20 rfl rfl ?_
                        refine xi_dup2 (pc' := 22) kc_90_21 rfl ⟨rfl, rfl⟩ ?_
                        refine xcps4 (xj_get hy69 ry69 (i := 6) (by decide) (by decide)) (fun v70 ev70 bv70 dv70 => ?_)
                        refine xi_iaload (pc' := 23) (v := v70) kc_90_22 rfl A69 (by decide) rfl (xi_in (by decide) (by rw [hy69]; decide)) ev70 ?_
                        refine xi_iconst (pc' := 24) (v := 1) kc_90_23 rfl rfl ?_
                        refine xcps2 (α := Int32) ((v70 : Int32) + 1) (fun v71 ev71 => ?_)
                        have rv71 := xc_rng v71
                        refine xi_iadd (pc' := 25) (v := v71) kc_90_24 rfl ev71 ?_
                        refine xcps4 (xj_set (v := v71) hy69 ry69 6 (by first | omega | decide) (by first | omega | decide)) (fun y72 s72 hy72 ry72 => ?_)
                        refine xi_iastore (pc' := 26) (x' := y72) kc_90_25 rfl A69 rfl (xi_in (by decide) (by rw [hy69]; decide)) s72 (fun hh72 eh72 => ?_)
                        have K73 := xk_pa K (xk_wa rfl) xD_94 hy72 ry72 eh72
                        refine xi_iload_n (pc' := 27) (x := (-6)) kc_90_26 rfl rfl ?_
                        refine xi_ireturn kc_90_27 mr_90 rfl ?_
                        show xw J ov (d + 3) 113 (95, [(0, .ref 0), (1, .int x1), (2, .int x2), (3, .int x3), (4, .int x4)], [.int (-6)], hh72) _
                        refine xi_ireturn kc_113_95 mr_113 rfl ?_
                        have zcm6 : ((-6) : Int32).toInt = (-6) := by decide
                        exact kk (-6) hh72 (by omega) K73
                      · refine xi_cmf (pc' := 77) kc_113_74 rfl (xc_gt_f (X := x4.toInt) (Y := 999) rfl (by decide) (by omega)) ?_
                        refine xi_aload_n (pc' := 78) (x := 0) kc_113_77 rfl rfl ?_
                        refine xi_getfield (pc' := 81) (v := .ref 66) kc_113_78 rfl rfl rfl A3 rfl ?_
                        refine xi_getfield (pc' := 84) (v := .int u46) kc_113_81 rfl rfl rfl A47 rfl ?_
                        refine xi_bipush (pc' := 86) (v := 60) kc_113_84 rfl rfl ?_
                        refine xi_cmt (pc' := 96) kc_113_86 rfl (xc_lt_t (X := u46.toInt) (Y := 60) rfl (by decide) (by omega)) ?_
                        refine xi_aload_n (pc' := 97) (x := 0) kc_113_96 rfl rfl ?_
                        refine xi_getfield (pc' := 100) (v := .ref 66) kc_113_97 rfl rfl rfl A3 rfl ?_
                        refine xi_virtual (mj := 91) (as := []) (st1 := []) (lv0 := [(0, .ref 66)]) kc_113_100 rfl rfl rfl rfl rfl A47 (Nat.le_of_ble_eq_true rfl) (hJ _ _ _ _ (by decide)) (xm_le ml_91 rfl) rfl ?_
                        refine xi_aload_n (pc' := 1) (x := 66) kc_91_0 rfl rfl ?_
                        refine xi_lconst (pc' := 2) (v := 0) kc_91_1 rfl rfl ?_
                        refine xi_putfield (pc' := 5) (fs' := [.ref 1, .ref 67, .ref 70, .ref 71, .ref 72, .ref 73, .ref 74, .long 0, .int u46]) kc_91_2 rfl rfl rfl A47 rfl rfl rfl (Nat.le_of_ble_eq_true rfl) rfl (fun hh75 eh74 => ?_)
                        have K76 := xk_pl (k := 7) (v := 0) K (xk_wf rfl) xD_66 A47 rfl eh74 rfl
                        refine xi_return kc_91_5 mr_91 ?_
                        show xw J ov (d + 3) 113 (103, [(0, .ref 0), (1, .int x1), (2, .int x2), (3, .int x3), (4, .int x4)], [], hh75) _
                        refine xi_aload_n (pc' := 104) (x := 0) kc_113_103 rfl rfl ?_
                        have A77 := ((eh74.2.1 0 (by decide)).trans A3)
                        refine xi_getfield (pc' := 107) (v := .ref 66) kc_113_104 rfl rfl rfl A77 rfl ?_
                        refine xi_iload_n (pc' := 108) (x := x1) kc_113_107 rfl rfl ?_
                        refine xi_iload_n (pc' := 109) (x := x2) kc_113_108 rfl rfl ?_
                        refine xi_iload_n (pc' := 110) (x := x3) kc_113_109 rfl rfl ?_
                        refine xi_iload (pc' := 112) (x := x4) kc_113_110 rfl rfl ?_
                        refine xcps2 (α := Int32) (x3 - x4) (fun v78 ev78 => ?_)
                        have zv78 : v78.toInt = (x3.toInt + (-1) * x4.toInt) := by rw [← ev78]; exact (xz_sub (X := x3.toInt) (Y := x4.toInt) rfl rfl (by omega) (by omega)).trans (by omega)
                        refine xi_isub (pc' := 113) (v := v78) kc_113_112 rfl ev78 ?_
                        refine xi_iload_n (pc' := 114) (x := x3) kc_113_113 rfl rfl ?_
                        refine xi_iload (pc' := 116) (x := x4) kc_113_114 rfl rfl ?_
                        refine xcps2 (α := Int32) (x3 + x4) (fun v79 ev79 => ?_)
                        have zv79 : v79.toInt = (x3.toInt + x4.toInt) := by rw [← ev79]; exact (xz_add (X := x3.toInt) (Y := x4.toInt) rfl rfl (by omega) (by omega)).trans (by omega)
                        refine xi_iadd (pc' := 117) (v := v79) kc_113_116 rfl ev79 ?_
                        refine xi_virtual (mj := 115) (as := [.int x1, .int x2, .int v78, .int v79]) (st1 := []) (lv0 := [(0, .ref 66), (1, .int x1), (2, .int x2), (3, .int v78), (4, .int v79)]) kc_113_117 rfl rfl rfl rfl rfl eh74.1 (Nat.le_of_ble_eq_true rfl) (hJ _ _ _ _ (by decide)) (xm_le ml_115 rfl) rfl ?_
                        refine xi_aload_n (pc' := 1) (x := 66) kc_115_0 rfl rfl ?_
                        refine xi_getfield (pc' := 4) (v := .int u46) kc_115_1 rfl rfl rfl eh74.1 rfl ?_
                        refine xi_bipush (pc' := 6) (v := 60) kc_115_4 rfl rfl ?_
                        refine xi_cmt (pc' := 12) kc_115_6 rfl (xc_lt_t (X := u46.toInt) (Y := 60) rfl (by decide) (by omega)) ?_
                        refine xi_aload_n (pc' := 13) (x := 66) kc_115_12 rfl rfl ?_
                        refine xi_getfield (pc' := 16) (v := .ref 70) kc_115_13 rfl rfl rfl eh74.1 rfl ?_
                        refine xi_aload_n (pc' := 17) (x := 66) kc_115_16 rfl rfl ?_
                        refine xi_getfield (pc' := 20) (v := .int u46) kc_115_17 rfl rfl rfl eh74.1 rfl ?_
                        refine xi_iload_n (pc' := 21) (x := x1) kc_115_20 rfl rfl ?_
                        refine xcps4 (xk_arr K76.1 xD_70) (fun y80 A80 hy80 ry80 => ?_)
                        refine xcps4 (xj_set (v := x1) hy80 ry80 u46 (by first | omega | decide) (by first | omega | decide)) (fun y81 s81 hy81 ry81 => ?_)
                        refine xi_iastore (pc' := 22) (x' := y81) kc_115_21 rfl A80 rfl (xi_in (by omega) (by rw [hy80]; omega)) s81 (fun hh81 eh81 => ?_)
                        have K82 := xk_pa K76 (xk_wa rfl) xD_70 hy81 ry81 eh81
                        refine xi_aload_n (pc' := 23) (x := 66) kc_115_22 rfl rfl ?_
                        have A83 := ((eh81.2.1 66 (by decide)).trans eh74.1)
                        refine xi_getfield (pc' := 26) (v := .ref 71) kc_115_23 rfl rfl rfl A83 rfl ?_
                        refine xi_aload_n (pc' := 27) (x := 66) kc_115_26 rfl rfl ?_
                        refine xi_getfield (pc' := 30) (v := .int u46) kc_115_27 rfl rfl rfl A83 rfl ?_
                        refine xi_iload_n (pc' := 31) (x := x2) kc_115_30 rfl rfl ?_
                        refine xcps4 (xk_arr K82.1 xD_71) (fun y84 A84 hy84 ry84 => ?_)
                        refine xcps4 (xj_set (v := x2) hy84 ry84 u46 (by first | omega | decide) (by first | omega | decide)) (fun y85 s85 hy85 ry85 => ?_)
                        refine xi_iastore (pc' := 32) (x' := y85) kc_115_31 rfl A84 rfl (xi_in (by omega) (by rw [hy84]; omega)) s85 (fun hh85 eh85 => ?_)
                        have K86 := xk_pa K82 (xk_wa rfl) xD_71 hy85 ry85 eh85
                        refine xi_aload_n (pc' := 33) (x := 66) kc_115_32 rfl rfl ?_
                        have A87 := ((eh85.2.1 66 (by decide)).trans A83)
                        refine xi_getfield (pc' := 36) (v := .ref 72) kc_115_33 rfl rfl rfl A87 rfl ?_
                        refine xi_aload_n (pc' := 37) (x := 66) kc_115_36 rfl rfl ?_
                        refine xi_getfield (pc' := 40) (v := .int u46) kc_115_37 rfl rfl rfl A87 rfl ?_
                        refine xi_iload_n (pc' := 41) (x := v78) kc_115_40 rfl rfl ?_
                        refine xcps4 (xk_arr K86.1 xD_72) (fun y88 A88 hy88 ry88 => ?_)
                        refine xcps4 (xj_set (v := v78) hy88 ry88 u46 (by first | omega | decide) (by first | omega | decide)) (fun y89 s89 hy89 ry89 => ?_)
                        refine xi_iastore (pc' := 42) (x' := y89) kc_115_41 rfl A88 rfl (xi_in (by omega) (by rw [hy88]; omega)) s89 (fun hh89 eh89 => ?_)
                        have K90 := xk_pa K86 (xk_wa rfl) xD_72 hy89 ry89 eh89
                        refine xi_aload_n (pc' := 43) (x := 66) kc_115_42 rfl rfl ?_
                        have A91 := ((eh89.2.1 66 (by decide)).trans A87)
                        refine xi_getfield (pc' := 46) (v := .ref 73) kc_115_43 rfl rfl rfl A91 rfl ?_
                        refine xi_aload_n (pc' := 47) (x := 66) kc_115_46 rfl rfl ?_
                        refine xi_getfield (pc' := 50) (v := .int u46) kc_115_47 rfl rfl rfl A91 rfl ?_
                        refine xi_iload (pc' := 52) (x := v79) kc_115_50 rfl rfl ?_
                        refine xcps4 (xk_arr K90.1 xD_73) (fun y92 A92 hy92 ry92 => ?_)
                        refine xcps4 (xj_set (v := v79) hy92 ry92 u46 (by first | omega | decide) (by first | omega | decide)) (fun y93 s93 hy93 ry93 => ?_)
                        refine xi_iastore (pc' := 53) (x' := y93) kc_115_52 rfl A92 rfl (xi_in (by omega) (by rw [hy92]; omega)) s93 (fun hh93 eh93 => ?_)
                        have K94 := xk_pa K90 (xk_wa rfl) xD_73 hy93 ry93 eh93
                        refine xi_aload_n (pc' := 54) (x := 66) kc_115_53 rfl rfl ?_
                        refine xi_dup (pc' := 55) kc_115_54 rfl rfl ?_
                        have A95 := ((eh93.2.1 66 (by decide)).trans A91)
                        refine xi_getfield (pc' := 58) (v := .int u46) kc_115_55 rfl rfl rfl A95 rfl ?_
                        refine xi_iconst (pc' := 59) (v := 1) kc_115_58 rfl rfl ?_
                        refine xcps2 (α := Int32) (u46 + 1) (fun v96 ev96 => ?_)
                        have zv96 : v96.toInt = (u46.toInt + 1) := by rw [← ev96]; exact (xz_add (X := u46.toInt) (Y := 1) rfl (by decide) (by omega) (by omega)).trans (by omega)
                        refine xi_iadd (pc' := 60) (v := v96) kc_115_59 rfl ev96 ?_
                        refine xi_putfield (pc' := 63) (fs' := [.ref 1, .ref 67, .ref 70, .ref 71, .ref 72, .ref 73, .ref 74, .long 0, .int v96]) kc_115_60 rfl rfl rfl A95 rfl rfl rfl (Nat.le_of_ble_eq_true rfl) rfl (fun hh98 eh97 => ?_)
                        have K99 := xk_pf (k := 8) (v := v96) K94 (xk_wf rfl) xD_66 A95 rfl (by first | omega | decide) (by first | omega | decide) eh97 rfl
                        refine xi_aload_n (pc' := 64) (x := 66) kc_115_63 rfl rfl ?_
                        refine xi_getfield (pc' := 67) (v := .int v96) kc_115_64 rfl rfl rfl eh97.1 rfl ?_
                        refine xi_iconst (pc' := 68) (v := 1) kc_115_67 rfl rfl ?_
                        refine xcps2 (α := Int32) (v96 - 1) (fun v100 ev100 => ?_)
                        have zv100 : v100.toInt = u46.toInt := by rw [← ev100]; exact (xz_sub (X := (u46.toInt + 1)) (Y := 1) zv96 (by decide) (by omega) (by omega)).trans (by omega)
                        refine xi_isub (pc' := 69) (v := v100) kc_115_68 rfl ev100 ?_
                        refine xi_ireturn kc_115_69 mr_115 rfl ?_
                        show xw J ov (d + 3) 113 (120, [(0, .ref 0), (1, .int x1), (2, .int x2), (3, .int x3), (4, .int x4)], [.int v100], hh98) _
                        refine xi_ireturn kc_113_120 mr_113 rfl ?_
                        exact kk v100 hh98 (by omega) K99
                  · refine xi_iff (pc' := 56) kc_113_53 rfl (xc_ge_f (X := x4.toInt) (Y := 0) rfl (by decide) (by omega)) ?_
                    refine xi_aload_n (pc' := 57) (x := 0) kc_113_56 rfl rfl ?_
                    refine xi_bipush (pc' := 59) (v := (-4)) kc_113_57 rfl rfl ?_
                    refine xi_virtual (mj := 90) (as := [.int (-4)]) (st1 := []) (lv0 := [(0, .ref 0), (1, .int (-4))]) kc_113_59 rfl rfl rfl rfl rfl A3 (Nat.le_of_ble_eq_true rfl) (hJ _ _ _ _ (by decide)) (xm_le ml_90 rfl) rfl ?_
                    refine xi_iload_n (pc' := 1) (x := (-4)) kc_90_0 rfl rfl ?_
                    refine xi_ineg (pc' := 2) (v := 4) kc_90_1 rfl rfl ?_
                    refine xi_istore_n (pc' := 3) (lv' := [(2, .int 4), (0, .ref 0), (1, .int (-4))]) kc_90_2 rfl rfl (xm_lt ml_90 rfl) ?_
                    refine xi_iload_n (pc' := 4) (x := 4) kc_90_3 rfl rfl ?_
                    refine xi_iff (pc' := 7) kc_90_4 rfl rfl ?_
                    refine xi_iload_n (pc' := 8) (x := 4) kc_90_7 rfl rfl ?_
                    refine xi_aload_n (pc' := 9) (x := 0) kc_90_8 rfl rfl ?_
                    refine xi_getfield (pc' := 12) (v := .ref 94) kc_90_9 rfl rfl rfl A3 rfl ?_
                    refine xcps4 (xk_arr K.1 xD_94) (fun y101 A101 hy101 ry101 => ?_)
                    refine xi_arraylength (pc' := 13) (n := 7) (v := 7) kc_90_12 rfl (xl_lenI (by decide) (by decide) A101 hy101) rfl ?_
                    refine xi_cmf (pc' := 16) kc_90_13 rfl rfl ?_
                    refine xi_aload_n (pc' := 17) (x := 0) kc_90_16 rfl rfl ?_
                    refine xi_getfield (pc' := 20) (v := .ref 94) kc_90_17 rfl rfl rfl A3 rfl ?_
                    refine xi_iload_n (pc' := 21) (x := 4) kc_90_20 rfl rfl ?_
                    refine xi_dup2 (pc' := 22) kc_90_21 rfl ⟨rfl, rfl⟩ ?_
                    refine xcps4 (xj_get hy101 ry101 (i := 4) (by decide) (by decide)) (fun v102 ev102 bv102 dv102 => ?_)
                    refine xi_iaload (pc' := 23) (v := v102) kc_90_22 rfl A101 (by decide) rfl (xi_in (by decide) (by rw [hy101]; decide)) ev102 ?_
                    refine xi_iconst (pc' := 24) (v := 1) kc_90_23 rfl rfl ?_
                    refine xcps2 (α := Int32) ((v102 : Int32) + 1) (fun v103 ev103 => ?_)
                    have rv103 := xc_rng v103
                    refine xi_iadd (pc' := 25) (v := v103) kc_90_24 rfl ev103 ?_
                    refine xcps4 (xj_set (v := v103) hy101 ry101 4 (by first | omega | decide) (by first | omega | decide)) (fun y104 s104 hy104 ry104 => ?_)
                    refine xi_iastore (pc' := 26) (x' := y104) kc_90_25 rfl A101 rfl (xi_in (by decide) (by rw [hy101]; decide)) s104 (fun hh104 eh104 => ?_)
                    have K105 := xk_pa K (xk_wa rfl) xD_94 hy104 ry104 eh104
                    refine xi_iload_n (pc' := 27) (x := (-4)) kc_90_26 rfl rfl ?_
                    refine xi_ireturn kc_90_27 mr_90 rfl ?_
                    show xw J ov (d + 3) 113 (62, [(0, .ref 0), (1, .int x1), (2, .int x2), (3, .int x3), (4, .int x4)], [.int (-4)], hh104) _
                    refine xi_ireturn kc_113_62 mr_113 rfl ?_
                    have zcm4 : ((-4) : Int32).toInt = (-4) := by decide
                    exact kk (-4) hh104 (by omega) K105
            · refine xi_iff (pc' := 7) kc_114_4 rfl (xc_le_f (X := u46.toInt) (Y := 0) rfl (by decide) (by omega)) ?_
              refine xi_aload_n (pc' := 8) (x := 66) kc_114_7 rfl rfl ?_
              refine xi_getfield (pc' := 11) (v := .int u46) kc_114_8 rfl rfl rfl A47 rfl ?_
              refine xi_bipush (pc' := 13) (v := 60) kc_114_11 rfl rfl ?_
              refine xi_cmf (pc' := 16) kc_114_13 rfl (xc_gt_f (X := u46.toInt) (Y := 60) rfl (by decide) (by omega)) ?_
              refine xi_iload_n (pc' := 17) (x := x2) kc_114_16 rfl rfl ?_
              refine xi_aload_n (pc' := 18) (x := 66) kc_114_17 rfl rfl ?_
              refine xi_getfield (pc' := 21) (v := .ref 71) kc_114_18 rfl rfl rfl A47 rfl ?_
              refine xi_aload_n (pc' := 22) (x := 66) kc_114_21 rfl rfl ?_
              refine xi_getfield (pc' := 25) (v := .int u46) kc_114_22 rfl rfl rfl A47 rfl ?_
              refine xi_iconst (pc' := 26) (v := 1) kc_114_25 rfl rfl ?_
              refine xcps2 (α := Int32) (u46 - 1) (fun v106 ev106 => ?_)
              have zv106 : v106.toInt = (u46.toInt + (-1)) := by rw [← ev106]; exact (xz_sub (X := u46.toInt) (Y := 1) rfl (by decide) (by omega) (by omega)).trans (by omega)
              refine xi_isub (pc' := 27) (v := v106) kc_114_26 rfl ev106 ?_
              refine xcps4 (xk_arr K.1 xD_71) (fun y107 A107 hy107 ry107 => ?_)
              refine xcps4 (xj_get hy107 ry107 (i := v106) (by rw [zv106]; omega) (by rw [zv106]; omega)) (fun v108 ev108 bv108 dv108 => ?_)
              refine xi_iaload (pc' := 28) (v := v108) kc_114_27 rfl A107 (by decide) rfl (xi_in (by rw [zv106]; omega) (by rw [hy107]; rw [zv106]; omega)) ev108 ?_
              by_cases c109 : v108.toInt ≤ x2.toInt
              · refine xi_cmt (pc' := 35) kc_114_28 rfl (xc_ge_t (X := x2.toInt) (Y := v108.toInt) rfl rfl (by omega)) ?_
                refine xi_iconst (pc' := 36) (v := 0) kc_114_35 rfl rfl ?_
                refine xi_ireturn kc_114_36 mr_114 rfl ?_
                show xw J ov (d + 3) 113 (33, [(0, .ref 0), (1, .int x1), (2, .int x2), (3, .int x3), (4, .int x4)], [.int 0], h) _
                refine xi_ift (pc' := 43) kc_113_33 rfl rfl ?_
                refine xi_iload_n (pc' := 44) (x := x2) kc_113_43 rfl rfl ?_
                refine xi_iff (pc' := 47) kc_113_44 rfl (xc_lt_f (X := x2.toInt) (Y := 0) rfl (by decide) (by omega)) ?_
                refine xi_iload_n (pc' := 48) (x := x3) kc_113_47 rfl rfl ?_
                by_cases c110 : x3.toInt < 0
                · refine xi_ift (pc' := 56) kc_113_48 rfl (xc_lt_t (X := x3.toInt) (Y := 0) rfl (by decide) (by omega)) ?_
                  refine xi_aload_n (pc' := 57) (x := 0) kc_113_56 rfl rfl ?_
                  refine xi_bipush (pc' := 59) (v := (-4)) kc_113_57 rfl rfl ?_
                  refine xi_virtual (mj := 90) (as := [.int (-4)]) (st1 := []) (lv0 := [(0, .ref 0), (1, .int (-4))]) kc_113_59 rfl rfl rfl rfl rfl A3 (Nat.le_of_ble_eq_true rfl) (hJ _ _ _ _ (by decide)) (xm_le ml_90 rfl) rfl ?_
                  refine xi_iload_n (pc' := 1) (x := (-4)) kc_90_0 rfl rfl ?_
                  refine xi_ineg (pc' := 2) (v := 4) kc_90_1 rfl rfl ?_
                  refine xi_istore_n (pc' := 3) (lv' := [(2, .int 4), (0, .ref 0), (1, .int (-4))]) kc_90_2 rfl rfl (xm_lt ml_90 rfl) ?_
                  refine xi_iload_n (pc' := 4) (x := 4) kc_90_3 rfl rfl ?_
                  refine xi_iff (pc' := 7) kc_90_4 rfl rfl ?_
                  refine xi_iload_n (pc' := 8) (x := 4) kc_90_7 rfl rfl ?_
                  refine xi_aload_n (pc' := 9) (x := 0) kc_90_8 rfl rfl ?_
                  refine xi_getfield (pc' := 12) (v := .ref 94) kc_90_9 rfl rfl rfl A3 rfl ?_
                  refine xcps4 (xk_arr K.1 xD_94) (fun y111 A111 hy111 ry111 => ?_)
                  refine xi_arraylength (pc' := 13) (n := 7) (v := 7) kc_90_12 rfl (xl_lenI (by decide) (by decide) A111 hy111) rfl ?_
                  refine xi_cmf (pc' := 16) kc_90_13 rfl rfl ?_
                  refine xi_aload_n (pc' := 17) (x := 0) kc_90_16 rfl rfl ?_
                  refine xi_getfield (pc' := 20) (v := .ref 94) kc_90_17 rfl rfl rfl A3 rfl ?_
                  refine xi_iload_n (pc' := 21) (x := 4) kc_90_20 rfl rfl ?_
                  refine xi_dup2 (pc' := 22) kc_90_21 rfl ⟨rfl, rfl⟩ ?_
                  refine xcps4 (xj_get hy111 ry111 (i := 4) (by decide) (by decide)) (fun v112 ev112 bv112 dv112 => ?_)
                  refine xi_iaload (pc' := 23) (v := v112) kc_90_22 rfl A111 (by decide) rfl (xi_in (by decide) (by rw [hy111]; decide)) ev112 ?_
                  refine xi_iconst (pc' := 24) (v := 1) kc_90_23 rfl rfl ?_
                  refine xcps2 (α := Int32) ((v112 : Int32) + 1) (fun v113 ev113 => ?_)
                  have rv113 := xc_rng v113
                  refine xi_iadd (pc' := 25) (v := v113) kc_90_24 rfl ev113 ?_
                  refine xcps4 (xj_set (v := v113) hy111 ry111 4 (by first | omega | decide) (by first | omega | decide)) (fun y114 s114 hy114 ry114 => ?_)
                  refine xi_iastore (pc' := 26) (x' := y114) kc_90_25 rfl A111 rfl (xi_in (by decide) (by rw [hy111]; decide)) s114 (fun hh114 eh114 => ?_)
                  have K115 := xk_pa K (xk_wa rfl) xD_94 hy114 ry114 eh114
                  refine xi_iload_n (pc' := 27) (x := (-4)) kc_90_26 rfl rfl ?_
                  refine xi_ireturn kc_90_27 mr_90 rfl ?_
                  show xw J ov (d + 3) 113 (62, [(0, .ref 0), (1, .int x1), (2, .int x2), (3, .int x3), (4, .int x4)], [.int (-4)], hh114) _
                  refine xi_ireturn kc_113_62 mr_113 rfl ?_
                  have zcm4 : ((-4) : Int32).toInt = (-4) := by decide
                  exact kk (-4) hh114 (by omega) K115
                · refine xi_iff (pc' := 51) kc_113_48 rfl (xc_lt_f (X := x3.toInt) (Y := 0) rfl (by decide) (by omega)) ?_
                  refine xi_iload (pc' := 53) (x := x4) kc_113_51 rfl rfl ?_
                  by_cases c116 : 0 ≤ x4.toInt
                  · refine xi_ift (pc' := 63) kc_113_53 rfl (xc_ge_t (X := x4.toInt) (Y := 0) rfl (by decide) (by omega)) ?_
                    refine xi_iload_n (pc' := 64) (x := x3) kc_113_63 rfl rfl ?_
                    refine xi_ldc (pc' := 66) (v := 99999) kc_113_64 rfl rfl ?_
                    by_cases c117 : 99999 < x3.toInt
                    · refine xi_cmt (pc' := 89) kc_113_66 rfl (xc_gt_t (X := x3.toInt) (Y := 99999) rfl (by decide) (by omega)) ?_
                      refine xi_aload_n (pc' := 90) (x := 0) kc_113_89 rfl rfl ?_
                      refine xi_bipush (pc' := 92) (v := (-6)) kc_113_90 rfl rfl ?_
                      refine xi_virtual (mj := 90) (as := [.int (-6)]) (st1 := []) (lv0 := [(0, .ref 0), (1, .int (-6))]) kc_113_92 rfl rfl rfl rfl rfl A3 (Nat.le_of_ble_eq_true rfl) (hJ _ _ _ _ (by decide)) (xm_le ml_90 rfl) rfl ?_
                      refine xi_iload_n (pc' := 1) (x := (-6)) kc_90_0 rfl rfl ?_
                      refine xi_ineg (pc' := 2) (v := 6) kc_90_1 rfl rfl ?_
                      refine xi_istore_n (pc' := 3) (lv' := [(2, .int 6), (0, .ref 0), (1, .int (-6))]) kc_90_2 rfl rfl (xm_lt ml_90 rfl) ?_
                      refine xi_iload_n (pc' := 4) (x := 6) kc_90_3 rfl rfl ?_
                      refine xi_iff (pc' := 7) kc_90_4 rfl rfl ?_
                      refine xi_iload_n (pc' := 8) (x := 6) kc_90_7 rfl rfl ?_
                      refine xi_aload_n (pc' := 9) (x := 0) kc_90_8 rfl rfl ?_
                      refine xi_getfield (pc' := 12) (v := .ref 94) kc_90_9 rfl rfl rfl A3 rfl ?_
                      refine xcps4 (xk_arr K.1 xD_94) (fun y118 A118 hy118 ry118 => ?_)
                      refine xi_arraylength (pc' := 13) (n := 7) (v := 7) kc_90_12 rfl (xl_lenI (by decide) (by decide) A118 hy118) rfl ?_
                      refine xi_cmf (pc' := 16) kc_90_13 rfl rfl ?_
                      refine xi_aload_n (pc' := 17) (x := 0) kc_90_16 rfl rfl ?_
                      refine xi_getfield (pc' := 20) (v := .ref 94) kc_90_17 rfl rfl rfl A3 rfl ?_
                      refine xi_iload_n (pc' := 21) (x := 6) kc_90_20 rfl rfl ?_
                      refine xi_dup2 (pc' := 22) kc_90_21 rfl ⟨rfl, rfl⟩ ?_
                      refine xcps4 (xj_get hy118 ry118 (i := 6) (by decide) (by decide)) (fun v119 ev119 bv119 dv119 => ?_)
                      refine xi_iaload (pc' := 23) (v := v119) kc_90_22 rfl A118 (by decide) rfl (xi_in (by decide) (by rw [hy118]; decide)) ev119 ?_
                      refine xi_iconst (pc' := 24) (v := 1) kc_90_23 rfl rfl ?_
                      refine xcps2 (α := Int32) ((v119 : Int32) + 1) (fun v120 ev120 => ?_)
                      have rv120 := xc_rng v120
                      refine xi_iadd (pc' := 25) (v := v120) kc_90_24 rfl ev120 ?_
                      refine xcps4 (xj_set (v := v120) hy118 ry118 6 (by first | omega | decide) (by first | omega | decide)) (fun y121 s121 hy121 ry121 => ?_)
                      refine xi_iastore (pc' := 26) (x' := y121) kc_90_25 rfl A118 rfl (xi_in (by decide) (by rw [hy118]; decide)) s121 (fun hh121 eh121 => ?_)
                      have K122 := xk_pa K (xk_wa rfl) xD_94 hy121 ry121 eh121
                      refine xi_iload_n (pc' := 27) (x := (-6)) kc_90_26 rfl rfl ?_
                      refine xi_ireturn kc_90_27 mr_90 rfl ?_
                      show xw J ov (d + 3) 113 (95, [(0, .ref 0), (1, .int x1), (2, .int x2), (3, .int x3), (4, .int x4)], [.int (-6)], hh121) _
                      refine xi_ireturn kc_113_95 mr_113 rfl ?_
                      have zcm6 : ((-6) : Int32).toInt = (-6) := by decide
                      exact kk (-6) hh121 (by omega) K122
                    · refine xi_cmf (pc' := 69) kc_113_66 rfl (xc_gt_f (X := x3.toInt) (Y := 99999) rfl (by decide) (by omega)) ?_
                      refine xi_iload (pc' := 71) (x := x4) kc_113_69 rfl rfl ?_
                      refine xi_sipush (pc' := 74) (v := 999) kc_113_71 rfl rfl ?_
                      by_cases c123 : 999 < x4.toInt
                      · refine xi_cmt (pc' := 89) kc_113_74 rfl (xc_gt_t (X := x4.toInt) (Y := 999) rfl (by decide) (by omega)) ?_
                        refine xi_aload_n (pc' := 90) (x := 0) kc_113_89 rfl rfl ?_
                        refine xi_bipush (pc' := 92) (v := (-6)) kc_113_90 rfl rfl ?_
                        refine xi_virtual (mj := 90) (as := [.int (-6)]) (st1 := []) (lv0 := [(0, .ref 0), (1, .int (-6))]) kc_113_92 rfl rfl rfl rfl rfl A3 (Nat.le_of_ble_eq_true rfl) (hJ _ _ _ _ (by decide)) (xm_le ml_90 rfl) rfl ?_
                        refine xi_iload_n (pc' := 1) (x := (-6)) kc_90_0 rfl rfl ?_
                        refine xi_ineg (pc' := 2) (v := 6) kc_90_1 rfl rfl ?_
                        refine xi_istore_n (pc' := 3) (lv' := [(2, .int 6), (0, .ref 0), (1, .int (-6))]) kc_90_2 rfl rfl (xm_lt ml_90 rfl) ?_
                        refine xi_iload_n (pc' := 4) (x := 6) kc_90_3 rfl rfl ?_
                        refine xi_iff (pc' := 7) kc_90_4 rfl rfl ?_
                        refine xi_iload_n (pc' := 8) (x := 6) kc_90_7 rfl rfl ?_
                        refine xi_aload_n (pc' := 9) (x := 0) kc_90_8 rfl rfl ?_
                        refine xi_getfield (pc' := 12) (v := .ref 94) kc_90_9 rfl rfl rfl A3 rfl ?_
                        refine xcps4 (xk_arr K.1 xD_94) (fun y124 A124 hy124 ry124 => ?_)
                        refine xi_arraylength (pc' := 13) (n := 7) (v := 7) kc_90_12 rfl (xl_lenI (by decide) (by decide) A124 hy124) rfl ?_
                        refine xi_cmf (pc' := 16) kc_90_13 rfl rfl ?_
                        refine xi_aload_n (pc' := 17) (x := 0) kc_90_16 rfl rfl ?_
                        refine xi_getfield (pc' := 20) (v := .ref 94) kc_90_17 rfl rfl rfl A3 rfl ?_
                        refine xi_iload_n (pc' := 21) (x := 6) kc_90_20 rfl rfl ?_
                        refine xi_dup2 (pc' := 22) kc_90_21 rfl ⟨rfl, rfl⟩ ?_
                        refine xcps4 (xj_get hy124 ry124 (i := 6) (by decide) (by decide)) (fun v125 ev125 bv125 dv125 => ?_)
                        refine xi_iaload (pc' := 23) (v := v125) kc_90_22 rfl A124 (by decide) rfl (xi_in (by decide) (by rw [hy124]; decide)) ev125 ?_
                        refine xi_iconst (pc' := 24) (v := 1) kc_90_23 rfl rfl ?_
                        refine xcps2 (α := Int32) ((v125 : Int32) + 1) (fun v126 ev126 => ?_)
                        have rv126 := xc_rng v126
                        refine xi_iadd (pc' := 25) (v := v126) kc_90_24 rfl ev126 ?_
                        refine xcps4 (xj_set (v := v126) hy124 ry124 6 (by first | omega | decide) (by first | omega | decide)) (fun y127 s127 hy127 ry127 => ?_)
                        refine xi_iastore (pc' := 26) (x' := y127) kc_90_25 rfl A124 rfl (xi_in (by decide) (by rw [hy124]; decide)) s127 (fun hh127 eh127 => ?_)
                        have K128 := xk_pa K (xk_wa rfl) xD_94 hy127 ry127 eh127
                        refine xi_iload_n (pc' := 27) (x := (-6)) kc_90_26 rfl rfl ?_
                        refine xi_ireturn kc_90_27 mr_90 rfl ?_
                        show xw J ov (d + 3) 113 (95, [(0, .ref 0), (1, .int x1), (2, .int x2), (3, .int x3), (4, .int x4)], [.int (-6)], hh127) _
                        refine xi_ireturn kc_113_95 mr_113 rfl ?_
                        have zcm6 : ((-6) : Int32).toInt = (-6) := by decide
                        exact kk (-6) hh127 (by omega) K128
                      · refine xi_cmf (pc' := 77) kc_113_74 rfl (xc_gt_f (X := x4.toInt) (Y := 999) rfl (by decide) (by omega)) ?_
                        refine xi_aload_n (pc' := 78) (x := 0) kc_113_77 rfl rfl ?_
                        refine xi_getfield (pc' := 81) (v := .ref 66) kc_113_78 rfl rfl rfl A3 rfl ?_
                        refine xi_getfield (pc' := 84) (v := .int u46) kc_113_81 rfl rfl rfl A47 rfl ?_
                        refine xi_bipush (pc' := 86) (v := 60) kc_113_84 rfl rfl ?_
                        by_cases c129 : u46.toInt < 60
                        · refine xi_cmt (pc' := 96) kc_113_86 rfl (xc_lt_t (X := u46.toInt) (Y := 60) rfl (by decide) (by omega)) ?_
                          refine xi_aload_n (pc' := 97) (x := 0) kc_113_96 rfl rfl ?_
                          refine xi_getfield (pc' := 100) (v := .ref 66) kc_113_97 rfl rfl rfl A3 rfl ?_
                          refine xi_virtual (mj := 91) (as := []) (st1 := []) (lv0 := [(0, .ref 66)]) kc_113_100 rfl rfl rfl rfl rfl A47 (Nat.le_of_ble_eq_true rfl) (hJ _ _ _ _ (by decide)) (xm_le ml_91 rfl) rfl ?_
                          refine xi_aload_n (pc' := 1) (x := 66) kc_91_0 rfl rfl ?_
                          refine xi_lconst (pc' := 2) (v := 0) kc_91_1 rfl rfl ?_
                          refine xi_putfield (pc' := 5) (fs' := [.ref 1, .ref 67, .ref 70, .ref 71, .ref 72, .ref 73, .ref 74, .long 0, .int u46]) kc_91_2 rfl rfl rfl A47 rfl rfl rfl (Nat.le_of_ble_eq_true rfl) rfl (fun hh131 eh130 => ?_)
                          have K132 := xk_pl (k := 7) (v := 0) K (xk_wf rfl) xD_66 A47 rfl eh130 rfl
                          refine xi_return kc_91_5 mr_91 ?_
                          show xw J ov (d + 3) 113 (103, [(0, .ref 0), (1, .int x1), (2, .int x2), (3, .int x3), (4, .int x4)], [], hh131) _
                          refine xi_aload_n (pc' := 104) (x := 0) kc_113_103 rfl rfl ?_
                          have A133 := ((eh130.2.1 0 (by decide)).trans A3)
                          refine xi_getfield (pc' := 107) (v := .ref 66) kc_113_104 rfl rfl rfl A133 rfl ?_
                          refine xi_iload_n (pc' := 108) (x := x1) kc_113_107 rfl rfl ?_
                          refine xi_iload_n (pc' := 109) (x := x2) kc_113_108 rfl rfl ?_
                          refine xi_iload_n (pc' := 110) (x := x3) kc_113_109 rfl rfl ?_
                          refine xi_iload (pc' := 112) (x := x4) kc_113_110 rfl rfl ?_
                          refine xcps2 (α := Int32) (x3 - x4) (fun v134 ev134 => ?_)
                          have zv134 : v134.toInt = (x3.toInt + (-1) * x4.toInt) := by rw [← ev134]; exact (xz_sub (X := x3.toInt) (Y := x4.toInt) rfl rfl (by omega) (by omega)).trans (by omega)
                          refine xi_isub (pc' := 113) (v := v134) kc_113_112 rfl ev134 ?_
                          refine xi_iload_n (pc' := 114) (x := x3) kc_113_113 rfl rfl ?_
                          refine xi_iload (pc' := 116) (x := x4) kc_113_114 rfl rfl ?_
                          refine xcps2 (α := Int32) (x3 + x4) (fun v135 ev135 => ?_)
                          have zv135 : v135.toInt = (x3.toInt + x4.toInt) := by rw [← ev135]; exact (xz_add (X := x3.toInt) (Y := x4.toInt) rfl rfl (by omega) (by omega)).trans (by omega)
                          refine xi_iadd (pc' := 117) (v := v135) kc_113_116 rfl ev135 ?_
                          refine xi_virtual (mj := 115) (as := [.int x1, .int x2, .int v134, .int v135]) (st1 := []) (lv0 := [(0, .ref 66), (1, .int x1), (2, .int x2), (3, .int v134), (4, .int v135)]) kc_113_117 rfl rfl rfl rfl rfl eh130.1 (Nat.le_of_ble_eq_true rfl) (hJ _ _ _ _ (by decide)) (xm_le ml_115 rfl) rfl ?_
                          refine xi_aload_n (pc' := 1) (x := 66) kc_115_0 rfl rfl ?_
                          refine xi_getfield (pc' := 4) (v := .int u46) kc_115_1 rfl rfl rfl eh130.1 rfl ?_
                          refine xi_bipush (pc' := 6) (v := 60) kc_115_4 rfl rfl ?_
                          refine xi_cmt (pc' := 12) kc_115_6 rfl (xc_lt_t (X := u46.toInt) (Y := 60) rfl (by decide) (by omega)) ?_
                          refine xi_aload_n (pc' := 13) (x := 66) kc_115_12 rfl rfl ?_
                          refine xi_getfield (pc' := 16) (v := .ref 70) kc_115_13 rfl rfl rfl eh130.1 rfl ?_
                          refine xi_aload_n (pc' := 17) (x := 66) kc_115_16 rfl rfl ?_
                          refine xi_getfield (pc' := 20) (v := .int u46) kc_115_17 rfl rfl rfl eh130.1 rfl ?_
                          refine xi_iload_n (pc' := 21) (x := x1) kc_115_20 rfl rfl ?_
                          refine xcps4 (xk_arr K132.1 xD_70) (fun y136 A136 hy136 ry136 => ?_)
                          refine xcps4 (xj_set (v := x1) hy136 ry136 u46 (by first | omega | decide) (by first | omega | decide)) (fun y137 s137 hy137 ry137 => ?_)
                          refine xi_iastore (pc' := 22) (x' := y137) kc_115_21 rfl A136 rfl (xi_in (by omega) (by rw [hy136]; omega)) s137 (fun hh137 eh137 => ?_)
                          have K138 := xk_pa K132 (xk_wa rfl) xD_70 hy137 ry137 eh137
                          refine xi_aload_n (pc' := 23) (x := 66) kc_115_22 rfl rfl ?_
                          have A139 := ((eh137.2.1 66 (by decide)).trans eh130.1)
                          refine xi_getfield (pc' := 26) (v := .ref 71) kc_115_23 rfl rfl rfl A139 rfl ?_
                          refine xi_aload_n (pc' := 27) (x := 66) kc_115_26 rfl rfl ?_
                          refine xi_getfield (pc' := 30) (v := .int u46) kc_115_27 rfl rfl rfl A139 rfl ?_
                          refine xi_iload_n (pc' := 31) (x := x2) kc_115_30 rfl rfl ?_
                          have A140 := ((eh137.2.1 71 (by decide)).trans ((eh130.2.1 71 (by decide)).trans A107))
                          refine xcps4 (xj_set (v := x2) hy107 ry107 u46 (by first | omega | decide) (by first | omega | decide)) (fun y141 s141 hy141 ry141 => ?_)
                          refine xi_iastore (pc' := 32) (x' := y141) kc_115_31 rfl A140 rfl (xi_in (by omega) (by rw [hy107]; omega)) s141 (fun hh141 eh141 => ?_)
                          have K142 := xk_pa K138 (xk_wa rfl) xD_71 hy141 ry141 eh141
                          refine xi_aload_n (pc' := 33) (x := 66) kc_115_32 rfl rfl ?_
                          have A143 := ((eh141.2.1 66 (by decide)).trans A139)
                          refine xi_getfield (pc' := 36) (v := .ref 72) kc_115_33 rfl rfl rfl A143 rfl ?_
                          refine xi_aload_n (pc' := 37) (x := 66) kc_115_36 rfl rfl ?_
                          refine xi_getfield (pc' := 40) (v := .int u46) kc_115_37 rfl rfl rfl A143 rfl ?_
                          refine xi_iload_n (pc' := 41) (x := v134) kc_115_40 rfl rfl ?_
                          refine xcps4 (xk_arr K142.1 xD_72) (fun y144 A144 hy144 ry144 => ?_)
                          refine xcps4 (xj_set (v := v134) hy144 ry144 u46 (by first | omega | decide) (by first | omega | decide)) (fun y145 s145 hy145 ry145 => ?_)
                          refine xi_iastore (pc' := 42) (x' := y145) kc_115_41 rfl A144 rfl (xi_in (by omega) (by rw [hy144]; omega)) s145 (fun hh145 eh145 => ?_)
                          have K146 := xk_pa K142 (xk_wa rfl) xD_72 hy145 ry145 eh145
                          refine xi_aload_n (pc' := 43) (x := 66) kc_115_42 rfl rfl ?_
                          have A147 := ((eh145.2.1 66 (by decide)).trans A143)
                          refine xi_getfield (pc' := 46) (v := .ref 73) kc_115_43 rfl rfl rfl A147 rfl ?_
                          refine xi_aload_n (pc' := 47) (x := 66) kc_115_46 rfl rfl ?_
                          refine xi_getfield (pc' := 50) (v := .int u46) kc_115_47 rfl rfl rfl A147 rfl ?_
                          refine xi_iload (pc' := 52) (x := v135) kc_115_50 rfl rfl ?_
                          refine xcps4 (xk_arr K146.1 xD_73) (fun y148 A148 hy148 ry148 => ?_)
                          refine xcps4 (xj_set (v := v135) hy148 ry148 u46 (by first | omega | decide) (by first | omega | decide)) (fun y149 s149 hy149 ry149 => ?_)
                          refine xi_iastore (pc' := 53) (x' := y149) kc_115_52 rfl A148 rfl (xi_in (by omega) (by rw [hy148]; omega)) s149 (fun hh149 eh149 => ?_)
                          have K150 := xk_pa K146 (xk_wa rfl) xD_73 hy149 ry149 eh149
                          refine xi_aload_n (pc' := 54) (x := 66) kc_115_53 rfl rfl ?_
                          refine xi_dup (pc' := 55) kc_115_54 rfl rfl ?_
                          have A151 := ((eh149.2.1 66 (by decide)).trans A147)
                          refine xi_getfield (pc' := 58) (v := .int u46) kc_115_55 rfl rfl rfl A151 rfl ?_
                          refine xi_iconst (pc' := 59) (v := 1) kc_115_58 rfl rfl ?_
                          refine xcps2 (α := Int32) (u46 + 1) (fun v152 ev152 => ?_)
                          have zv152 : v152.toInt = (u46.toInt + 1) := by rw [← ev152]; exact (xz_add (X := u46.toInt) (Y := 1) rfl (by decide) (by omega) (by omega)).trans (by omega)
                          refine xi_iadd (pc' := 60) (v := v152) kc_115_59 rfl ev152 ?_
                          refine xi_putfield (pc' := 63) (fs' := [.ref 1, .ref 67, .ref 70, .ref 71, .ref 72, .ref 73, .ref 74, .long 0, .int v152]) kc_115_60 rfl rfl rfl A151 rfl rfl rfl (Nat.le_of_ble_eq_true rfl) rfl (fun hh154 eh153 => ?_)
                          have K155 := xk_pf (k := 8) (v := v152) K150 (xk_wf rfl) xD_66 A151 rfl (by first | omega | decide) (by first | omega | decide) eh153 rfl
                          refine xi_aload_n (pc' := 64) (x := 66) kc_115_63 rfl rfl ?_
                          refine xi_getfield (pc' := 67) (v := .int v152) kc_115_64 rfl rfl rfl eh153.1 rfl ?_
                          refine xi_iconst (pc' := 68) (v := 1) kc_115_67 rfl rfl ?_
                          refine xcps2 (α := Int32) (v152 - 1) (fun v156 ev156 => ?_)
                          have zv156 : v156.toInt = u46.toInt := by rw [← ev156]; exact (xz_sub (X := (u46.toInt + 1)) (Y := 1) zv152 (by decide) (by omega) (by omega)).trans (by omega)
                          refine xi_isub (pc' := 69) (v := v156) kc_115_68 rfl ev156 ?_
                          refine xi_ireturn kc_115_69 mr_115 rfl ?_
                          show xw J ov (d + 3) 113 (120, [(0, .ref 0), (1, .int x1), (2, .int x2), (3, .int x3), (4, .int x4)], [.int v156], hh154) _
                          refine xi_ireturn kc_113_120 mr_113 rfl ?_
                          exact kk v156 hh154 (by omega) K155
                        · refine xi_cmf (pc' := 89) kc_113_86 rfl (xc_lt_f (X := u46.toInt) (Y := 60) rfl (by decide) (by omega)) ?_
                          refine xi_aload_n (pc' := 90) (x := 0) kc_113_89 rfl rfl ?_
                          refine xi_bipush (pc' := 92) (v := (-6)) kc_113_90 rfl rfl ?_
                          refine xi_virtual (mj := 90) (as := [.int (-6)]) (st1 := []) (lv0 := [(0, .ref 0), (1, .int (-6))]) kc_113_92 rfl rfl rfl rfl rfl A3 (Nat.le_of_ble_eq_true rfl) (hJ _ _ _ _ (by decide)) (xm_le ml_90 rfl) rfl ?_
                          refine xi_iload_n (pc' := 1) (x := (-6)) kc_90_0 rfl rfl ?_
                          refine xi_ineg (pc' := 2) (v := 6) kc_90_1 rfl rfl ?_
                          refine xi_istore_n (pc' := 3) (lv' := [(2, .int 6), (0, .ref 0), (1, .int (-6))]) kc_90_2 rfl rfl (xm_lt ml_90 rfl) ?_
                          refine xi_iload_n (pc' := 4) (x := 6) kc_90_3 rfl rfl ?_
                          refine xi_iff (pc' := 7) kc_90_4 rfl rfl ?_
                          refine xi_iload_n (pc' := 8) (x := 6) kc_90_7 rfl rfl ?_
                          refine xi_aload_n (pc' := 9) (x := 0) kc_90_8 rfl rfl ?_
                          refine xi_getfield (pc' := 12) (v := .ref 94) kc_90_9 rfl rfl rfl A3 rfl ?_
                          refine xcps4 (xk_arr K.1 xD_94) (fun y157 A157 hy157 ry157 => ?_)
                          refine xi_arraylength (pc' := 13) (n := 7) (v := 7) kc_90_12 rfl (xl_lenI (by decide) (by decide) A157 hy157) rfl ?_
                          refine xi_cmf (pc' := 16) kc_90_13 rfl rfl ?_
                          refine xi_aload_n (pc' := 17) (x := 0) kc_90_16 rfl rfl ?_
                          refine xi_getfield (pc' := 20) (v := .ref 94) kc_90_17 rfl rfl rfl A3 rfl ?_
                          refine xi_iload_n (pc' := 21) (x := 6) kc_90_20 rfl rfl ?_
                          refine xi_dup2 (pc' := 22) kc_90_21 rfl ⟨rfl, rfl⟩ ?_
                          refine xcps4 (xj_get hy157 ry157 (i := 6) (by decide) (by decide)) (fun v158 ev158 bv158 dv158 => ?_)
                          refine xi_iaload (pc' := 23) (v := v158) kc_90_22 rfl A157 (by decide) rfl (xi_in (by decide) (by rw [hy157]; decide)) ev158 ?_
                          refine xi_iconst (pc' := 24) (v := 1) kc_90_23 rfl rfl ?_
                          refine xcps2 (α := Int32) ((v158 : Int32) + 1) (fun v159 ev159 => ?_)
                          have rv159 := xc_rng v159
                          refine xi_iadd (pc' := 25) (v := v159) kc_90_24 rfl ev159 ?_
                          refine xcps4 (xj_set (v := v159) hy157 ry157 6 (by first | omega | decide) (by first | omega | decide)) (fun y160 s160 hy160 ry160 => ?_)
                          refine xi_iastore (pc' := 26) (x' := y160) kc_90_25 rfl A157 rfl (xi_in (by decide) (by rw [hy157]; decide)) s160 (fun hh160 eh160 => ?_)
                          have K161 := xk_pa K (xk_wa rfl) xD_94 hy160 ry160 eh160
                          refine xi_iload_n (pc' := 27) (x := (-6)) kc_90_26 rfl rfl ?_
                          refine xi_ireturn kc_90_27 mr_90 rfl ?_
                          show xw J ov (d + 3) 113 (95, [(0, .ref 0), (1, .int x1), (2, .int x2), (3, .int x3), (4, .int x4)], [.int (-6)], hh160) _
                          refine xi_ireturn kc_113_95 mr_113 rfl ?_
                          have zcm6 : ((-6) : Int32).toInt = (-6) := by decide
                          exact kk (-6) hh160 (by omega) K161
                  · refine xi_iff (pc' := 56) kc_113_53 rfl (xc_ge_f (X := x4.toInt) (Y := 0) rfl (by decide) (by omega)) ?_
                    refine xi_aload_n (pc' := 57) (x := 0) kc_113_56 rfl rfl ?_
                    refine xi_bipush (pc' := 59) (v := (-4)) kc_113_57 rfl rfl ?_
                    refine xi_virtual (mj := 90) (as := [.int (-4)]) (st1 := []) (lv0 := [(0, .ref 0), (1, .int (-4))]) kc_113_59 rfl rfl rfl rfl rfl A3 (Nat.le_of_ble_eq_true rfl) (hJ _ _ _ _ (by decide)) (xm_le ml_90 rfl) rfl ?_
                    refine xi_iload_n (pc' := 1) (x := (-4)) kc_90_0 rfl rfl ?_
                    refine xi_ineg (pc' := 2) (v := 4) kc_90_1 rfl rfl ?_
                    refine xi_istore_n (pc' := 3) (lv' := [(2, .int 4), (0, .ref 0), (1, .int (-4))]) kc_90_2 rfl rfl (xm_lt ml_90 rfl) ?_
                    refine xi_iload_n (pc' := 4) (x := 4) kc_90_3 rfl rfl ?_
                    refine xi_iff (pc' := 7) kc_90_4 rfl rfl ?_
                    refine xi_iload_n (pc' := 8) (x := 4) kc_90_7 rfl rfl ?_
                    refine xi_aload_n (pc' := 9) (x := 0) kc_90_8 rfl rfl ?_
                    refine xi_getfield (pc' := 12) (v := .ref 94) kc_90_9 rfl rfl rfl A3 rfl ?_
                    refine xcps4 (xk_arr K.1 xD_94) (fun y162 A162 hy162 ry162 => ?_)
                    refine xi_arraylength (pc' := 13) (n := 7) (v := 7) kc_90_12 rfl (xl_lenI (by decide) (by decide) A162 hy162) rfl ?_
                    refine xi_cmf (pc' := 16) kc_90_13 rfl rfl ?_
                    refine xi_aload_n (pc' := 17) (x := 0) kc_90_16 rfl rfl ?_
                    refine xi_getfield (pc' := 20) (v := .ref 94) kc_90_17 rfl rfl rfl A3 rfl ?_
                    refine xi_iload_n (pc' := 21) (x := 4) kc_90_20 rfl rfl ?_
                    refine xi_dup2 (pc' := 22) kc_90_21 rfl ⟨rfl, rfl⟩ ?_
                    refine xcps4 (xj_get hy162 ry162 (i := 4) (by decide) (by decide)) (fun v163 ev163 bv163 dv163 => ?_)
                    refine xi_iaload (pc' := 23) (v := v163) kc_90_22 rfl A162 (by decide) rfl (xi_in (by decide) (by rw [hy162]; decide)) ev163 ?_
                    refine xi_iconst (pc' := 24) (v := 1) kc_90_23 rfl rfl ?_
                    refine xcps2 (α := Int32) ((v163 : Int32) + 1) (fun v164 ev164 => ?_)
                    have rv164 := xc_rng v164
                    refine xi_iadd (pc' := 25) (v := v164) kc_90_24 rfl ev164 ?_
                    refine xcps4 (xj_set (v := v164) hy162 ry162 4 (by first | omega | decide) (by first | omega | decide)) (fun y165 s165 hy165 ry165 => ?_)
                    refine xi_iastore (pc' := 26) (x' := y165) kc_90_25 rfl A162 rfl (xi_in (by decide) (by rw [hy162]; decide)) s165 (fun hh165 eh165 => ?_)
                    have K166 := xk_pa K (xk_wa rfl) xD_94 hy165 ry165 eh165
                    refine xi_iload_n (pc' := 27) (x := (-4)) kc_90_26 rfl rfl ?_
                    refine xi_ireturn kc_90_27 mr_90 rfl ?_
                    show xw J ov (d + 3) 113 (62, [(0, .ref 0), (1, .int x1), (2, .int x2), (3, .int x3), (4, .int x4)], [.int (-4)], hh165) _
                    refine xi_ireturn kc_113_62 mr_113 rfl ?_
                    have zcm4 : ((-4) : Int32).toInt = (-4) := by decide
                    exact kk (-4) hh165 (by omega) K166
              · refine xi_cmf (pc' := 31) kc_114_28 rfl (xc_ge_f (X := x2.toInt) (Y := v108.toInt) rfl rfl (by omega)) ?_
                refine xi_iconst (pc' := 32) (v := 1) kc_114_31 rfl rfl ?_
                refine xi_goto (pc' := 36) kc_114_32 rfl ?_
                refine xi_ireturn kc_114_36 mr_114 rfl ?_
                show xw J ov (d + 3) 113 (33, [(0, .ref 0), (1, .int x1), (2, .int x2), (3, .int x3), (4, .int x4)], [.int 1], h) _
                refine xi_iff (pc' := 36) kc_113_33 rfl rfl ?_
                refine xi_aload_n (pc' := 37) (x := 0) kc_113_36 rfl rfl ?_
                refine xi_bipush (pc' := 39) (v := (-3)) kc_113_37 rfl rfl ?_
                refine xi_virtual (mj := 90) (as := [.int (-3)]) (st1 := []) (lv0 := [(0, .ref 0), (1, .int (-3))]) kc_113_39 rfl rfl rfl rfl rfl A3 (Nat.le_of_ble_eq_true rfl) (hJ _ _ _ _ (by decide)) (xm_le ml_90 rfl) rfl ?_
                refine xi_iload_n (pc' := 1) (x := (-3)) kc_90_0 rfl rfl ?_
                refine xi_ineg (pc' := 2) (v := 3) kc_90_1 rfl rfl ?_
                refine xi_istore_n (pc' := 3) (lv' := [(2, .int 3), (0, .ref 0), (1, .int (-3))]) kc_90_2 rfl rfl (xm_lt ml_90 rfl) ?_
                refine xi_iload_n (pc' := 4) (x := 3) kc_90_3 rfl rfl ?_
                refine xi_iff (pc' := 7) kc_90_4 rfl rfl ?_
                refine xi_iload_n (pc' := 8) (x := 3) kc_90_7 rfl rfl ?_
                refine xi_aload_n (pc' := 9) (x := 0) kc_90_8 rfl rfl ?_
                refine xi_getfield (pc' := 12) (v := .ref 94) kc_90_9 rfl rfl rfl A3 rfl ?_
                refine xcps4 (xk_arr K.1 xD_94) (fun y167 A167 hy167 ry167 => ?_)
                refine xi_arraylength (pc' := 13) (n := 7) (v := 7) kc_90_12 rfl (xl_lenI (by decide) (by decide) A167 hy167) rfl ?_
                refine xi_cmf (pc' := 16) kc_90_13 rfl rfl ?_
                refine xi_aload_n (pc' := 17) (x := 0) kc_90_16 rfl rfl ?_
                refine xi_getfield (pc' := 20) (v := .ref 94) kc_90_17 rfl rfl rfl A3 rfl ?_
                refine xi_iload_n (pc' := 21) (x := 3) kc_90_20 rfl rfl ?_
                refine xi_dup2 (pc' := 22) kc_90_21 rfl ⟨rfl, rfl⟩ ?_
                refine xcps4 (xj_get hy167 ry167 (i := 3) (by decide) (by decide)) (fun v168 ev168 bv168 dv168 => ?_)
                refine xi_iaload (pc' := 23) (v := v168) kc_90_22 rfl A167 (by decide) rfl (xi_in (by decide) (by rw [hy167]; decide)) ev168 ?_
                refine xi_iconst (pc' := 24) (v := 1) kc_90_23 rfl rfl ?_
                refine xcps2 (α := Int32) ((v168 : Int32) + 1) (fun v169 ev169 => ?_)
                have rv169 := xc_rng v169
                refine xi_iadd (pc' := 25) (v := v169) kc_90_24 rfl ev169 ?_
                refine xcps4 (xj_set (v := v169) hy167 ry167 3 (by first | omega | decide) (by first | omega | decide)) (fun y170 s170 hy170 ry170 => ?_)
                refine xi_iastore (pc' := 26) (x' := y170) kc_90_25 rfl A167 rfl (xi_in (by decide) (by rw [hy167]; decide)) s170 (fun hh170 eh170 => ?_)
                have K171 := xk_pa K (xk_wa rfl) xD_94 hy170 ry170 eh170
                refine xi_iload_n (pc' := 27) (x := (-3)) kc_90_26 rfl rfl ?_
                refine xi_ireturn kc_90_27 mr_90 rfl ?_
                show xw J ov (d + 3) 113 (42, [(0, .ref 0), (1, .int x1), (2, .int x2), (3, .int x3), (4, .int x4)], [.int (-3)], hh170) _
                refine xi_ireturn kc_113_42 mr_113 rfl ?_
                have zcm3 : ((-3) : Int32).toInt = (-3) := by decide
                exact kk (-3) hh170 (by omega) K171
set_option maxHeartbeats 4000000 in
theorem mt_118_0 {J : xe_J} {ov : List (List Int32)} (hJ : ∀ d mj as h, mj ≠ xe_loff → J d mj as h = none) (hov1 : ov[1]? = some [10, 0, 0, 0, 0, 0]) (hov2 : ov[2]? = some [99, 30, 50, 50, 1, 99999]) {d : Nat} {Q : Option Value → xe_H → Prop} {h : xe_H} {x1 : Int32} {x2 : Int32} (T : xt h) (b1 : (0 ≤ x1.toInt ∧ x1.toInt ≤ 3)) (kk : (∀ (r : Int32) (h' : xe_H), (0 ≤ r.toInt ∧ r.toInt ≤ 1) → xk [(0, 9), (115, 1), (83, 0), (29, 0), (31, 0), (33, 0), (35, 0), (37, 0), (39, 0), (41, 0), (43, 0), (45, 0), (47, 0), (49, 0), (51, 0), (125, 0), (66, 8), (115, 18), (71, 0), (132, 0)] h h' → Q (some (.int r)) h')) : xw J ov (d + 3) 118 (0, [(0, .ref 1), (1, .int x1), (2, .int x2)], [], h) Q := by
  have K : xk [(0, 9), (115, 1), (83, 0), (29, 0), (31, 0), (33, 0), (35, 0), (37, 0), (39, 0), (41, 0), (43, 0), (45, 0), (47, 0), (49, 0), (51, 0), (125, 0), (66, 8), (115, 18), (71, 0), (132, 0)] h h := xk_re T
  have rx2 := xc_rng x2
  refine xi_iload_n (pc' := 1) (x := x1) kc_118_0 rfl rfl ?_
  refine xi_iconst (pc' := 2) (v := 3) kc_118_1 rfl rfl ?_
  by_cases c1 : x1.toInt = 3
  · refine xi_cmf (pc' := 5) kc_118_2 rfl (xc_ne_f (X := x1.toInt) (Y := 3) rfl (by decide) (by omega)) ?_
    refine xi_iload_n (pc' := 6) (x := x2) kc_118_5 rfl rfl ?_
    refine xi_static (mj := 89) (as := [.int x2]) (st1 := []) (lv0 := [(0, .int x2)]) kc_118_6 rfl rfl (Nat.le_of_ble_eq_true rfl) rfl rfl (Nat.le_of_ble_eq_true rfl) (hJ _ _ _ _ (by decide)) (xm_le ml_89 rfl) rfl ?_
    refine xi_iload_n (pc' := 1) (x := x2) kc_89_0 rfl rfl ?_
    by_cases c2 : x2.toInt < 0
    · refine xi_ift (pc' := 14) kc_89_1 rfl (xc_lt_t (X := x2.toInt) (Y := 0) rfl (by decide) (by omega)) ?_
      refine xi_iconst (pc' := 15) (v := 0) kc_89_14 rfl rfl ?_
      refine xi_ireturn kc_89_15 mr_89 rfl ?_
      show xw J ov (d + 3) 118 (9, [(0, .ref 1), (1, .int x1), (2, .int x2)], [.int 0], h) _
      refine xi_ireturn kc_118_9 mr_118 rfl ?_
      have zc0 : (0 : Int32).toInt = 0 := by decide
      exact kk 0 h (by omega) K
    · refine xi_iff (pc' := 4) kc_89_1 rfl (xc_lt_f (X := x2.toInt) (Y := 0) rfl (by decide) (by omega)) ?_
      refine xi_iload_n (pc' := 5) (x := x2) kc_89_4 rfl rfl ?_
      refine xi_bipush (pc' := 7) (v := 6) kc_89_5 rfl rfl ?_
      by_cases c3 : 6 ≤ x2.toInt
      · refine xi_cmt (pc' := 14) kc_89_7 rfl (xc_ge_t (X := x2.toInt) (Y := 6) rfl (by decide) (by omega)) ?_
        refine xi_iconst (pc' := 15) (v := 0) kc_89_14 rfl rfl ?_
        refine xi_ireturn kc_89_15 mr_89 rfl ?_
        show xw J ov (d + 3) 118 (9, [(0, .ref 1), (1, .int x1), (2, .int x2)], [.int 0], h) _
        refine xi_ireturn kc_118_9 mr_118 rfl ?_
        have zc0 : (0 : Int32).toInt = 0 := by decide
        exact kk 0 h (by omega) K
      · refine xi_cmf (pc' := 10) kc_89_7 rfl (xc_ge_f (X := x2.toInt) (Y := 6) rfl (by decide) (by omega)) ?_
        refine xi_iconst (pc' := 11) (v := 1) kc_89_10 rfl rfl ?_
        refine xi_goto (pc' := 15) kc_89_11 rfl ?_
        refine xi_ireturn kc_89_15 mr_89 rfl ?_
        show xw J ov (d + 3) 118 (9, [(0, .ref 1), (1, .int x1), (2, .int x2)], [.int 1], h) _
        refine xi_ireturn kc_118_9 mr_118 rfl ?_
        have zc1 : (1 : Int32).toInt = 1 := by decide
        exact kk 1 h (by omega) K
  · refine xi_cmt (pc' := 10) kc_118_2 rfl (xc_ne_t (X := x1.toInt) (Y := 3) rfl (by decide) (by omega)) ?_
    refine xi_aload_n (pc' := 11) (x := 1) kc_118_10 rfl rfl ?_
    refine xi_iload_n (pc' := 12) (x := x2) kc_118_11 rfl rfl ?_
    refine xp_1 K.1 (fun u4 u5 bu4 bu5 A6 => ?_)
    refine xi_virtual (mj := 108) (as := [.int x2]) (st1 := []) (lv0 := [(0, .ref 1), (1, .int x2)]) kc_118_12 rfl rfl rfl rfl rfl A6 (Nat.le_of_ble_eq_true rfl) (hJ _ _ _ _ (by decide)) (xm_le ml_108 rfl) rfl ?_
    refine xi_iload_n (pc' := 1) (x := x2) kc_108_0 rfl rfl ?_
    refine xi_static (mj := 104) (as := [.int x2]) (st1 := []) (lv0 := [(0, .int x2)]) kc_108_1 rfl rfl (Nat.le_of_ble_eq_true rfl) rfl rfl (Nat.le_of_ble_eq_true rfl) (hJ _ _ _ _ (by decide)) (xm_le ml_104 rfl) rfl ?_
    refine xi_iload_n (pc' := 1) (x := x2) kc_104_0 rfl rfl ?_
    by_cases c7 : x2.toInt < 0
    · refine xi_ift (pc' := 14) kc_104_1 rfl (xc_lt_t (X := x2.toInt) (Y := 0) rfl (by decide) (by omega)) ?_
      refine xi_iconst (pc' := 15) (v := 0) kc_104_14 rfl rfl ?_
      refine xi_ireturn kc_104_15 mr_104 rfl ?_
      show xw J ov (d + 2) 108 (4, [(0, .ref 1), (1, .int x2)], [.int 0], h) _
      refine xi_ift (pc' := 23) kc_108_4 rfl rfl ?_
      refine xi_iconst (pc' := 24) (v := 0) kc_108_23 rfl rfl ?_
      refine xi_ireturn kc_108_24 mr_108 rfl ?_
      show xw J ov (d + 3) 118 (15, [(0, .ref 1), (1, .int x1), (2, .int x2)], [.int 0], h) _
      refine xi_ift (pc' := 38) kc_118_15 rfl rfl ?_
      refine xi_iconst (pc' := 39) (v := 0) kc_118_38 rfl rfl ?_
      refine xi_ireturn kc_118_39 mr_118 rfl ?_
      have zc0 : (0 : Int32).toInt = 0 := by decide
      exact kk 0 h (by omega) K
    · refine xi_iff (pc' := 4) kc_104_1 rfl (xc_lt_f (X := x2.toInt) (Y := 0) rfl (by decide) (by omega)) ?_
      refine xi_iload_n (pc' := 5) (x := x2) kc_104_4 rfl rfl ?_
      refine xi_bipush (pc' := 7) (v := 12) kc_104_5 rfl rfl ?_
      by_cases c8 : 12 ≤ x2.toInt
      · refine xi_cmt (pc' := 14) kc_104_7 rfl (xc_ge_t (X := x2.toInt) (Y := 12) rfl (by decide) (by omega)) ?_
        refine xi_iconst (pc' := 15) (v := 0) kc_104_14 rfl rfl ?_
        refine xi_ireturn kc_104_15 mr_104 rfl ?_
        show xw J ov (d + 2) 108 (4, [(0, .ref 1), (1, .int x2)], [.int 0], h) _
        refine xi_ift (pc' := 23) kc_108_4 rfl rfl ?_
        refine xi_iconst (pc' := 24) (v := 0) kc_108_23 rfl rfl ?_
        refine xi_ireturn kc_108_24 mr_108 rfl ?_
        show xw J ov (d + 3) 118 (15, [(0, .ref 1), (1, .int x1), (2, .int x2)], [.int 0], h) _
        refine xi_ift (pc' := 38) kc_118_15 rfl rfl ?_
        refine xi_iconst (pc' := 39) (v := 0) kc_118_38 rfl rfl ?_
        refine xi_ireturn kc_118_39 mr_118 rfl ?_
        have zc0 : (0 : Int32).toInt = 0 := by decide
        exact kk 0 h (by omega) K
      · refine xi_cmf (pc' := 10) kc_104_7 rfl (xc_ge_f (X := x2.toInt) (Y := 12) rfl (by decide) (by omega)) ?_
        refine xi_iconst (pc' := 11) (v := 1) kc_104_10 rfl rfl ?_
        refine xi_goto (pc' := 15) kc_104_11 rfl ?_
        refine xi_ireturn kc_104_15 mr_104 rfl ?_
        show xw J ov (d + 2) 108 (4, [(0, .ref 1), (1, .int x2)], [.int 1], h) _
        refine xi_iff (pc' := 7) kc_108_4 rfl rfl ?_
        refine xi_aload_n (pc' := 8) (x := 1) kc_108_7 rfl rfl ?_
        refine xi_getfield (pc' := 11) (v := .ref 3) kc_108_8 rfl rfl rfl A6 rfl ?_
        refine xi_iload_n (pc' := 12) (x := x2) kc_108_11 rfl rfl ?_
        have A9 := xk_ex K.1 xD_3
        obtain ⟨pt10, ept10, mpt10⟩ := xR_3 (i := x2) (by omega) (by omega)
        refine xj_aaload (pc' := 13) (b := pt10) kc_108_12 rfl A9 rfl (xi_in (n := 12) (by omega) (by omega)) ept10 ?_
        obtain ⟨u11, u12, u13, u14, pt15, bu11, bu12, bu13, bu14, mpt15, A16⟩ := xg_wall K.1 mpt10
        refine xi_virtual (mj := 105) (as := []) (st1 := []) (lv0 := [(0, .ref pt10)]) kc_108_13 rfl rfl rfl rfl rfl A16 (Nat.le_of_ble_eq_true rfl) (hJ _ _ _ _ (by decide)) (xm_le ml_105 rfl) rfl ?_
        refine xi_aload_n (pc' := 1) (x := pt10) kc_105_0 rfl rfl ?_
        refine xi_getfield (pc' := 4) (v := .int u11) kc_105_1 rfl rfl rfl A16 rfl ?_
        refine xi_static (mj := 89) (as := [.int u11]) (st1 := []) (lv0 := [(0, .int u11)]) kc_105_4 rfl rfl (Nat.le_of_ble_eq_true rfl) rfl rfl (Nat.le_of_ble_eq_true rfl) (hJ _ _ _ _ (by decide)) (xm_le ml_89 rfl) rfl ?_
        refine xi_iload_n (pc' := 1) (x := u11) kc_89_0 rfl rfl ?_
        by_cases c17 : u11.toInt < 0
        · refine xi_ift (pc' := 14) kc_89_1 rfl (xc_lt_t (X := u11.toInt) (Y := 0) rfl (by decide) (by omega)) ?_
          refine xi_iconst (pc' := 15) (v := 0) kc_89_14 rfl rfl ?_
          refine xi_ireturn kc_89_15 mr_89 rfl ?_
          show xw J ov (d + 1) 105 (7, [(0, .ref pt10)], [.int 0], h) _
          refine xi_ireturn kc_105_7 mr_105 rfl ?_
          show xw J ov (d + 2) 108 (16, [(0, .ref 1), (1, .int x2)], [.int 0], h) _
          refine xi_ift (pc' := 23) kc_108_16 rfl rfl ?_
          refine xi_iconst (pc' := 24) (v := 0) kc_108_23 rfl rfl ?_
          refine xi_ireturn kc_108_24 mr_108 rfl ?_
          show xw J ov (d + 3) 118 (15, [(0, .ref 1), (1, .int x1), (2, .int x2)], [.int 0], h) _
          refine xi_ift (pc' := 38) kc_118_15 rfl rfl ?_
          refine xi_iconst (pc' := 39) (v := 0) kc_118_38 rfl rfl ?_
          refine xi_ireturn kc_118_39 mr_118 rfl ?_
          have zc0 : (0 : Int32).toInt = 0 := by decide
          exact kk 0 h (by omega) K
        · refine xi_iff (pc' := 4) kc_89_1 rfl (xc_lt_f (X := u11.toInt) (Y := 0) rfl (by decide) (by omega)) ?_
          refine xi_iload_n (pc' := 5) (x := u11) kc_89_4 rfl rfl ?_
          refine xi_bipush (pc' := 7) (v := 6) kc_89_5 rfl rfl ?_
          by_cases c18 : 6 ≤ u11.toInt
          · refine xi_cmt (pc' := 14) kc_89_7 rfl (xc_ge_t (X := u11.toInt) (Y := 6) rfl (by decide) (by omega)) ?_
            refine xi_iconst (pc' := 15) (v := 0) kc_89_14 rfl rfl ?_
            refine xi_ireturn kc_89_15 mr_89 rfl ?_
            show xw J ov (d + 1) 105 (7, [(0, .ref pt10)], [.int 0], h) _
            refine xi_ireturn kc_105_7 mr_105 rfl ?_
            show xw J ov (d + 2) 108 (16, [(0, .ref 1), (1, .int x2)], [.int 0], h) _
            refine xi_ift (pc' := 23) kc_108_16 rfl rfl ?_
            refine xi_iconst (pc' := 24) (v := 0) kc_108_23 rfl rfl ?_
            refine xi_ireturn kc_108_24 mr_108 rfl ?_
            show xw J ov (d + 3) 118 (15, [(0, .ref 1), (1, .int x1), (2, .int x2)], [.int 0], h) _
            refine xi_ift (pc' := 38) kc_118_15 rfl rfl ?_
            refine xi_iconst (pc' := 39) (v := 0) kc_118_38 rfl rfl ?_
            refine xi_ireturn kc_118_39 mr_118 rfl ?_
            have zc0 : (0 : Int32).toInt = 0 := by decide
            exact kk 0 h (by omega) K
          · refine xi_cmf (pc' := 10) kc_89_7 rfl (xc_ge_f (X := u11.toInt) (Y := 6) rfl (by decide) (by omega)) ?_
            refine xi_iconst (pc' := 11) (v := 1) kc_89_10 rfl rfl ?_
            refine xi_goto (pc' := 15) kc_89_11 rfl ?_
            refine xi_ireturn kc_89_15 mr_89 rfl ?_
            show xw J ov (d + 1) 105 (7, [(0, .ref pt10)], [.int 1], h) _
            refine xi_ireturn kc_105_7 mr_105 rfl ?_
            show xw J ov (d + 2) 108 (16, [(0, .ref 1), (1, .int x2)], [.int 1], h) _
            refine xi_iff (pc' := 19) kc_108_16 rfl rfl ?_
            refine xi_iconst (pc' := 20) (v := 1) kc_108_19 rfl rfl ?_
            refine xi_goto (pc' := 24) kc_108_20 rfl ?_
            refine xi_ireturn kc_108_24 mr_108 rfl ?_
            show xw J ov (d + 3) 118 (15, [(0, .ref 1), (1, .int x1), (2, .int x2)], [.int 1], h) _
            refine xi_iff (pc' := 18) kc_118_15 rfl rfl ?_
            refine xi_iload_n (pc' := 19) (x := x1) kc_118_18 rfl rfl ?_
            by_cases c19 : x1.toInt = 0
            · refine xi_iff (pc' := 22) kc_118_19 rfl (xc_ne_f (X := x1.toInt) (Y := 0) rfl (by decide) (by omega)) ?_
              refine xi_aload_n (pc' := 23) (x := 1) kc_118_22 rfl rfl ?_
              refine xi_getfield (pc' := 26) (v := .ref 3) kc_118_23 rfl rfl rfl A6 rfl ?_
              refine xi_iload_n (pc' := 27) (x := x2) kc_118_26 rfl rfl ?_
              refine xj_aaload (pc' := 28) (b := pt10) kc_118_27 rfl A9 rfl (xi_in (n := 12) (by omega) (by omega)) ept10 ?_
              refine xi_getfield (pc' := 31) (v := .int u13) kc_118_28 rfl rfl rfl A16 rfl ?_
              by_cases c20 : u13.toInt = 0
              · refine xi_ift (pc' := 38) kc_118_31 rfl (xc_eq_t (X := u13.toInt) (Y := 0) rfl (by decide) (by omega)) ?_
                refine xi_iconst (pc' := 39) (v := 0) kc_118_38 rfl rfl ?_
                refine xi_ireturn kc_118_39 mr_118 rfl ?_
                have zc0 : (0 : Int32).toInt = 0 := by decide
                exact kk 0 h (by omega) K
              · refine xi_iff (pc' := 34) kc_118_31 rfl (xc_eq_f (X := u13.toInt) (Y := 0) rfl (by decide) (by omega)) ?_
                refine xi_iconst (pc' := 35) (v := 1) kc_118_34 rfl rfl ?_
                refine xi_goto (pc' := 39) kc_118_35 rfl ?_
                refine xi_ireturn kc_118_39 mr_118 rfl ?_
                have zc1 : (1 : Int32).toInt = 1 := by decide
                exact kk 1 h (by omega) K
            · refine xi_ift (pc' := 34) kc_118_19 rfl (xc_ne_t (X := x1.toInt) (Y := 0) rfl (by decide) (by omega)) ?_
              refine xi_iconst (pc' := 35) (v := 1) kc_118_34 rfl rfl ?_
              refine xi_goto (pc' := 39) kc_118_35 rfl ?_
              refine xi_ireturn kc_118_39 mr_118 rfl ?_
              have zc1 : (1 : Int32).toInt = 1 := by decide
              exact kk 1 h (by omega) K
