set_option maxHeartbeats 4000000 in
theorem mt_116_0 {J : xe_J} {ov : List (List Int32)} (hJ : ∀ d mj as h, mj ≠ xe_loff → J d mj as h = none) (hov1 : ov[1]? = some [10, 0, 0, 0, 0, 0]) (hov2 : ov[2]? = some [99, 30, 50, 50, 1, 99999]) {d : Nat} {Q : Option Value → xe_H → Prop} {h : xe_H} {x1 : Int32} {x2 : Int32} {x3 : Int32} {x4 : Int32} (T : xt h) (kk : (∀ (r : Int32) (h' : xe_H), ((-6) ≤ r.toInt ∧ r.toInt ≤ 9) → xk [(0, 9), (115, 1), (83, 0), (29, 0), (31, 0), (33, 0), (35, 0), (37, 0), (39, 0), (41, 0), (43, 0), (45, 0), (47, 0), (49, 0), (51, 0), (125, 0), (66, 8), (115, 18), (71, 0), (132, 0)] h h' → Q (some (.int r)) h')) : xw J ov (d + 4) 116 (0, [(0, .ref 0), (1, .int x1), (2, .int x2), (3, .int x3), (4, .int x4)], [], h) Q := by
  have K : xk [(0, 9), (115, 1), (83, 0), (29, 0), (31, 0), (33, 0), (35, 0), (37, 0), (39, 0), (41, 0), (43, 0), (45, 0), (47, 0), (49, 0), (51, 0), (125, 0), (66, 8), (115, 18), (71, 0), (132, 0)] h h := xk_re T
  have rx1 := xc_rng x1
  have rx2 := xc_rng x2
  have rx3 := xc_rng x3
  have rx4 := xc_rng x4
  refine xi_iload_n (pc' := 1) (x := x1) kc_116_0 rfl rfl ?_
  refine xi_static (mj := 117) (as := [.int x1]) (st1 := []) (lv0 := [(0, .int x1)]) kc_116_1 rfl rfl (Nat.le_of_ble_eq_true rfl) rfl rfl (Nat.le_of_ble_eq_true rfl) (hJ _ _ _ _ (by decide)) (xm_le ml_117 rfl) rfl ?_
  refine xi_iload_n (pc' := 1) (x := x1) kc_117_0 rfl rfl ?_
  by_cases c1 : x1.toInt < 0
  · refine xi_ift (pc' := 13) kc_117_1 rfl (xc_lt_t (X := x1.toInt) (Y := 0) rfl (by decide) (by omega)) ?_
    refine xi_iconst (pc' := 14) (v := 0) kc_117_13 rfl rfl ?_
    refine xi_ireturn kc_117_14 mr_117 rfl ?_
    show xw J ov (d + 4) 116 (4, [(0, .ref 0), (1, .int x1), (2, .int x2), (3, .int x3), (4, .int x4)], [.int 0], h) _
    refine xi_iff (pc' := 7) kc_116_4 rfl rfl ?_
    refine xi_aload_n (pc' := 8) (x := 0) kc_116_7 rfl rfl ?_
    refine xi_bipush (pc' := 10) (v := (-2)) kc_116_8 rfl rfl ?_
    refine xp_0 K.1 (fun u2 u3 bu2 bu3 A4 => ?_)
    refine xi_virtual (mj := 90) (as := [.int (-2)]) (st1 := []) (lv0 := [(0, .ref 0), (1, .int (-2))]) kc_116_10 rfl rfl rfl rfl rfl A4 (Nat.le_of_ble_eq_true rfl) (hJ _ _ _ _ (by decide)) (xm_le ml_90 rfl) rfl ?_
    refine xi_iload_n (pc' := 1) (x := (-2)) kc_90_0 rfl rfl ?_
    refine xi_ineg (pc' := 2) (v := 2) kc_90_1 rfl rfl ?_
    refine xi_istore_n (pc' := 3) (lv' := [(2, .int 2), (0, .ref 0), (1, .int (-2))]) kc_90_2 rfl rfl (xm_lt ml_90 rfl) ?_
    refine xi_iload_n (pc' := 4) (x := 2) kc_90_3 rfl rfl ?_
    refine xi_iff (pc' := 7) kc_90_4 rfl rfl ?_
    refine xi_iload_n (pc' := 8) (x := 2) kc_90_7 rfl rfl ?_
    refine xi_aload_n (pc' := 9) (x := 0) kc_90_8 rfl rfl ?_
    refine xi_getfield (pc' := 12) (v := .ref 94) kc_90_9 rfl rfl rfl A4 rfl ?_
    refine xcps4 (xk_arr K.1 xD_94) (fun y5 A5 hy5 ry5 => ?_)
    refine xi_arraylength (pc' := 13) (n := 7) (v := 7) kc_90_12 rfl (xl_lenI (by decide) (by decide) A5 hy5) rfl ?_
    refine xi_cmf (pc' := 16) kc_90_13 rfl rfl ?_
    refine xi_aload_n (pc' := 17) (x := 0) kc_90_16 rfl rfl ?_
    refine xi_getfield (pc' := 20) (v := .ref 94) kc_90_17 rfl rfl rfl A4 rfl ?_
    refine xi_iload_n (pc' := 21) (x := 2) kc_90_20 rfl rfl ?_
    refine xi_dup2 (pc' := 22) kc_90_21 rfl ⟨rfl, rfl⟩ ?_
    refine xcps4 (xj_get hy5 ry5 (i := 2) (by decide) (by decide)) (fun v6 ev6 bv6 dv6 => ?_)
    refine xi_iaload (pc' := 23) (v := v6) kc_90_22 rfl A5 (by decide) rfl (xi_in (by decide) (by rw [hy5]; decide)) ev6 ?_
    refine xi_iconst (pc' := 24) (v := 1) kc_90_23 rfl rfl ?_
    refine xcps2 (α := Int32) ((v6 : Int32) + 1) (fun v7 ev7 => ?_)
    have rv7 := xc_rng v7
    refine xi_iadd (pc' := 25) (v := v7) kc_90_24 rfl ev7 ?_
    refine xcps4 (xj_set (v := v7) hy5 ry5 2 (by first | omega | decide) (by first | omega | decide)) (fun y8 s8 hy8 ry8 => ?_)
    refine xi_iastore (pc' := 26) (x' := y8) kc_90_25 rfl A5 rfl (xi_in (by decide) (by rw [hy5]; decide)) s8 (fun hh8 eh8 => ?_)
    have K9 := xk_pa K (xk_wa rfl) xD_94 hy8 ry8 eh8
    refine xi_iload_n (pc' := 27) (x := (-2)) kc_90_26 rfl rfl ?_
    refine xi_ireturn kc_90_27 mr_90 rfl ?_
    show xw J ov (d + 4) 116 (13, [(0, .ref 0), (1, .int x1), (2, .int x2), (3, .int x3), (4, .int x4)], [.int (-2)], hh8) _
    refine xi_ireturn kc_116_13 mr_116 rfl ?_
    have zcm2 : ((-2) : Int32).toInt = (-2) := by decide
    exact kk (-2) hh8 (by omega) K9
  · refine xi_iff (pc' := 4) kc_117_1 rfl (xc_lt_f (X := x1.toInt) (Y := 0) rfl (by decide) (by omega)) ?_
    refine xi_iload_n (pc' := 5) (x := x1) kc_117_4 rfl rfl ?_
    refine xi_iconst (pc' := 6) (v := 4) kc_117_5 rfl rfl ?_
    by_cases c10 : 4 ≤ x1.toInt
    · refine xi_cmt (pc' := 13) kc_117_6 rfl (xc_ge_t (X := x1.toInt) (Y := 4) rfl (by decide) (by omega)) ?_
      refine xi_iconst (pc' := 14) (v := 0) kc_117_13 rfl rfl ?_
      refine xi_ireturn kc_117_14 mr_117 rfl ?_
      show xw J ov (d + 4) 116 (4, [(0, .ref 0), (1, .int x1), (2, .int x2), (3, .int x3), (4, .int x4)], [.int 0], h) _
      refine xi_iff (pc' := 7) kc_116_4 rfl rfl ?_
      refine xi_aload_n (pc' := 8) (x := 0) kc_116_7 rfl rfl ?_
      refine xi_bipush (pc' := 10) (v := (-2)) kc_116_8 rfl rfl ?_
      refine xp_0 K.1 (fun u11 u12 bu11 bu12 A13 => ?_)
      refine xi_virtual (mj := 90) (as := [.int (-2)]) (st1 := []) (lv0 := [(0, .ref 0), (1, .int (-2))]) kc_116_10 rfl rfl rfl rfl rfl A13 (Nat.le_of_ble_eq_true rfl) (hJ _ _ _ _ (by decide)) (xm_le ml_90 rfl) rfl ?_
      refine xi_iload_n (pc' := 1) (x := (-2)) kc_90_0 rfl rfl ?_
      refine xi_ineg (pc' := 2) (v := 2) kc_90_1 rfl rfl ?_
      refine xi_istore_n (pc' := 3) (lv' := [(2, .int 2), (0, .ref 0), (1, .int (-2))]) kc_90_2 rfl rfl (xm_lt ml_90 rfl) ?_
      refine xi_iload_n (pc' := 4) (x := 2) kc_90_3 rfl rfl ?_
      refine xi_iff (pc' := 7) kc_90_4 rfl rfl ?_
      refine xi_iload_n (pc' := 8) (x := 2) kc_90_7 rfl rfl ?_
      refine xi_aload_n (pc' := 9) (x := 0) kc_90_8 rfl rfl ?_
      refine xi_getfield (pc' := 12) (v := .ref 94) kc_90_9 rfl rfl rfl A13 rfl ?_
      refine xcps4 (xk_arr K.1 xD_94) (fun y14 A14 hy14 ry14 => ?_)
      refine xi_arraylength (pc' := 13) (n := 7) (v := 7) kc_90_12 rfl (xl_lenI (by decide) (by decide) A14 hy14) rfl ?_
      refine xi_cmf (pc' := 16) kc_90_13 rfl rfl ?_
      refine xi_aload_n (pc' := 17) (x := 0) kc_90_16 rfl rfl ?_
      refine xi_getfield (pc' := 20) (v := .ref 94) kc_90_17 rfl rfl rfl A13 rfl ?_
      refine xi_iload_n (pc' := 21) (x := 2) kc_90_20 rfl rfl ?_
      refine xi_dup2 (pc' := 22) kc_90_21 rfl ⟨rfl, rfl⟩ ?_
      refine xcps4 (xj_get hy14 ry14 (i := 2) (by decide) (by decide)) (fun v15 ev15 bv15 dv15 => ?_)
      refine xi_iaload (pc' := 23) (v := v15) kc_90_22 rfl A14 (by decide) rfl (xi_in (by decide) (by rw [hy14]; decide)) ev15 ?_
      refine xi_iconst (pc' := 24) (v := 1) kc_90_23 rfl rfl ?_
      refine xcps2 (α := Int32) ((v15 : Int32) + 1) (fun v16 ev16 => ?_)
      have rv16 := xc_rng v16
      refine xi_iadd (pc' := 25) (v := v16) kc_90_24 rfl ev16 ?_
      refine xcps4 (xj_set (v := v16) hy14 ry14 2 (by first | omega | decide) (by first | omega | decide)) (fun y17 s17 hy17 ry17 => ?_)
      refine xi_iastore (pc' := 26) (x' := y17) kc_90_25 rfl A14 rfl (xi_in (by decide) (by rw [hy14]; decide)) s17 (fun hh17 eh17 => ?_)
      have K18 := xk_pa K (xk_wa rfl) xD_94 hy17 ry17 eh17
      refine xi_iload_n (pc' := 27) (x := (-2)) kc_90_26 rfl rfl ?_
      refine xi_ireturn kc_90_27 mr_90 rfl ?_
      show xw J ov (d + 4) 116 (13, [(0, .ref 0), (1, .int x1), (2, .int x2), (3, .int x3), (4, .int x4)], [.int (-2)], hh17) _
      refine xi_ireturn kc_116_13 mr_116 rfl ?_
      have zcm2 : ((-2) : Int32).toInt = (-2) := by decide
      exact kk (-2) hh17 (by omega) K18
    · refine xi_cmf (pc' := 9) kc_117_6 rfl (xc_ge_f (X := x1.toInt) (Y := 4) rfl (by decide) (by omega)) ?_
      refine xi_iconst (pc' := 10) (v := 1) kc_117_9 rfl rfl ?_
      refine xi_goto (pc' := 14) kc_117_10 rfl ?_
      refine xi_ireturn kc_117_14 mr_117 rfl ?_
      show xw J ov (d + 4) 116 (4, [(0, .ref 0), (1, .int x1), (2, .int x2), (3, .int x3), (4, .int x4)], [.int 1], h) _
      refine xi_ift (pc' := 14) kc_116_4 rfl rfl ?_
      refine xi_aload_n (pc' := 15) (x := 0) kc_116_14 rfl rfl ?_
      refine xp_0 K.1 (fun u19 u20 bu19 bu20 A21 => ?_)
      refine xi_getfield (pc' := 18) (v := .ref 1) kc_116_15 rfl rfl rfl A21 rfl ?_
      refine xi_iload_n (pc' := 19) (x := x1) kc_116_18 rfl rfl ?_
      refine xi_iload_n (pc' := 20) (x := x2) kc_116_19 rfl rfl ?_
      refine xp_1 K.1 (fun u22 u23 bu22 bu23 A24 => ?_)
      refine xi_virtual (mj := 118) (as := [.int x1, .int x2]) (st1 := []) (lv0 := [(0, .ref 1), (1, .int x1), (2, .int x2)]) kc_116_20 rfl rfl rfl rfl rfl A24 (Nat.le_of_ble_eq_true rfl) (hJ _ _ _ _ (by decide)) (xm_le ml_118 rfl) rfl ?_
      refine mt_118_0 hJ hov1 hov2 (d := d) (x1 := x1) (x2 := x2) K.1 (by first | omega | decide) (fun r25 hh26 br25 K27 => ?_)
      have K28 := xk_tr K K27 rfl
      refine xp_0 K28.1 (fun u29 u30 bu29 bu30 A31 => ?_)
      have e32 : u20 = u30 := xk_eqi (q := 9) K27 rfl A21 A31 rfl rfl
      subst e32
      show xw J ov (d + 4) 116 (23, [(0, .ref 0), (1, .int x1), (2, .int x2), (3, .int x3), (4, .int x4)], [.int r25], hh26) _
      by_cases c33 : r25.toInt = 0
      · refine xi_iff (pc' := 26) kc_116_23 rfl (xc_ne_f (X := r25.toInt) (Y := 0) rfl (by decide) (by omega)) ?_
        refine xi_aload_n (pc' := 27) (x := 0) kc_116_26 rfl rfl ?_
        refine xi_iconst (pc' := 28) (v := (-1)) kc_116_27 rfl rfl ?_
        refine xi_virtual (mj := 90) (as := [.int (-1)]) (st1 := []) (lv0 := [(0, .ref 0), (1, .int (-1))]) kc_116_28 rfl rfl rfl rfl rfl A31 (Nat.le_of_ble_eq_true rfl) (hJ _ _ _ _ (by decide)) (xm_le ml_90 rfl) rfl ?_
        refine xi_iload_n (pc' := 1) (x := (-1)) kc_90_0 rfl rfl ?_
        refine xi_ineg (pc' := 2) (v := 1) kc_90_1 rfl rfl ?_
        refine xi_istore_n (pc' := 3) (lv' := [(2, .int 1), (0, .ref 0), (1, .int (-1))]) kc_90_2 rfl rfl (xm_lt ml_90 rfl) ?_
        refine xi_iload_n (pc' := 4) (x := 1) kc_90_3 rfl rfl ?_
        refine xi_iff (pc' := 7) kc_90_4 rfl rfl ?_
        refine xi_iload_n (pc' := 8) (x := 1) kc_90_7 rfl rfl ?_
        refine xi_aload_n (pc' := 9) (x := 0) kc_90_8 rfl rfl ?_
        refine xi_getfield (pc' := 12) (v := .ref 94) kc_90_9 rfl rfl rfl A31 rfl ?_
        refine xcps4 (xk_arr K28.1 xD_94) (fun y34 A34 hy34 ry34 => ?_)
        refine xi_arraylength (pc' := 13) (n := 7) (v := 7) kc_90_12 rfl (xl_lenI (by decide) (by decide) A34 hy34) rfl ?_
        refine xi_cmf (pc' := 16) kc_90_13 rfl rfl ?_
        refine xi_aload_n (pc' := 17) (x := 0) kc_90_16 rfl rfl ?_
        refine xi_getfield (pc' := 20) (v := .ref 94) kc_90_17 rfl rfl rfl A31 rfl ?_
        refine xi_iload_n (pc' := 21) (x := 1) kc_90_20 rfl rfl ?_
        refine xi_dup2 (pc' := 22) kc_90_21 rfl ⟨rfl, rfl⟩ ?_
        refine xcps4 (xj_get hy34 ry34 (i := 1) (by decide) (by decide)) (fun v35 ev35 bv35 dv35 => ?_)
        refine xi_iaload (pc' := 23) (v := v35) kc_90_22 rfl A34 (by decide) rfl (xi_in (by decide) (by rw [hy34]; decide)) ev35 ?_
        refine xi_iconst (pc' := 24) (v := 1) kc_90_23 rfl rfl ?_
        refine xcps2 (α := Int32) ((v35 : Int32) + 1) (fun v36 ev36 => ?_)
        have rv36 := xc_rng v36
        refine xi_iadd (pc' := 25) (v := v36) kc_90_24 rfl ev36 ?_
        refine xcps4 (xj_set (v := v36) hy34 ry34 1 (by first | omega | decide) (by first | omega | decide)) (fun y37 s37 hy37 ry37 => ?_)
        refine xi_iastore (pc' := 26) (x' := y37) kc_90_25 rfl A34 rfl (xi_in (by decide) (by rw [hy34]; decide)) s37 (fun hh37 eh37 => ?_)
        have K38 := xk_pa K28 (xk_wa rfl) xD_94 hy37 ry37 eh37
        refine xi_iload_n (pc' := 27) (x := (-1)) kc_90_26 rfl rfl ?_
        refine xi_ireturn kc_90_27 mr_90 rfl ?_
        show xw J ov (d + 4) 116 (31, [(0, .ref 0), (1, .int x1), (2, .int x2), (3, .int x3), (4, .int x4)], [.int (-1)], hh37) _
        refine xi_ireturn kc_116_31 mr_116 rfl ?_
        have zcm1 : ((-1) : Int32).toInt = (-1) := by decide
        exact kk (-1) hh37 (by omega) K38
      · refine xi_ift (pc' := 32) kc_116_23 rfl (xc_ne_t (X := r25.toInt) (Y := 0) rfl (by decide) (by omega)) ?_
        refine xi_iload_n (pc' := 33) (x := x3) kc_116_32 rfl rfl ?_
        refine xi_iconst (pc' := 34) (v := 1) kc_116_33 rfl rfl ?_
        by_cases c39 : x3.toInt < 1
        · refine xi_cmt (pc' := 42) kc_116_34 rfl (xc_lt_t (X := x3.toInt) (Y := 1) rfl (by decide) (by omega)) ?_
          refine xi_aload_n (pc' := 43) (x := 0) kc_116_42 rfl rfl ?_
          refine xi_bipush (pc' := 45) (v := (-4)) kc_116_43 rfl rfl ?_
          refine xi_virtual (mj := 90) (as := [.int (-4)]) (st1 := []) (lv0 := [(0, .ref 0), (1, .int (-4))]) kc_116_45 rfl rfl rfl rfl rfl A31 (Nat.le_of_ble_eq_true rfl) (hJ _ _ _ _ (by decide)) (xm_le ml_90 rfl) rfl ?_
          refine xi_iload_n (pc' := 1) (x := (-4)) kc_90_0 rfl rfl ?_
          refine xi_ineg (pc' := 2) (v := 4) kc_90_1 rfl rfl ?_
          refine xi_istore_n (pc' := 3) (lv' := [(2, .int 4), (0, .ref 0), (1, .int (-4))]) kc_90_2 rfl rfl (xm_lt ml_90 rfl) ?_
          refine xi_iload_n (pc' := 4) (x := 4) kc_90_3 rfl rfl ?_
          refine xi_iff (pc' := 7) kc_90_4 rfl rfl ?_
          refine xi_iload_n (pc' := 8) (x := 4) kc_90_7 rfl rfl ?_
          refine xi_aload_n (pc' := 9) (x := 0) kc_90_8 rfl rfl ?_
          refine xi_getfield (pc' := 12) (v := .ref 94) kc_90_9 rfl rfl rfl A31 rfl ?_
          refine xcps4 (xk_arr K28.1 xD_94) (fun y40 A40 hy40 ry40 => ?_)
          refine xi_arraylength (pc' := 13) (n := 7) (v := 7) kc_90_12 rfl (xl_lenI (by decide) (by decide) A40 hy40) rfl ?_
          refine xi_cmf (pc' := 16) kc_90_13 rfl rfl ?_
          refine xi_aload_n (pc' := 17) (x := 0) kc_90_16 rfl rfl ?_
          refine xi_getfield (pc' := 20) (v := .ref 94) kc_90_17 rfl rfl rfl A31 rfl ?_
          refine xi_iload_n (pc' := 21) (x := 4) kc_90_20 rfl rfl ?_
          refine xi_dup2 (pc' := 22) kc_90_21 rfl ⟨rfl, rfl⟩ ?_
          refine xcps4 (xj_get hy40 ry40 (i := 4) (by decide) (by decide)) (fun v41 ev41 bv41 dv41 => ?_)
          refine xi_iaload (pc' := 23) (v := v41) kc_90_22 rfl A40 (by decide) rfl (xi_in (by decide) (by rw [hy40]; decide)) ev41 ?_
          refine xi_iconst (pc' := 24) (v := 1) kc_90_23 rfl rfl ?_
          refine xcps2 (α := Int32) ((v41 : Int32) + 1) (fun v42 ev42 => ?_)
          have rv42 := xc_rng v42
          refine xi_iadd (pc' := 25) (v := v42) kc_90_24 rfl ev42 ?_
          refine xcps4 (xj_set (v := v42) hy40 ry40 4 (by first | omega | decide) (by first | omega | decide)) (fun y43 s43 hy43 ry43 => ?_)
          refine xi_iastore (pc' := 26) (x' := y43) kc_90_25 rfl A40 rfl (xi_in (by decide) (by rw [hy40]; decide)) s43 (fun hh43 eh43 => ?_)
          have K44 := xk_pa K28 (xk_wa rfl) xD_94 hy43 ry43 eh43
          refine xi_iload_n (pc' := 27) (x := (-4)) kc_90_26 rfl rfl ?_
          refine xi_ireturn kc_90_27 mr_90 rfl ?_
          show xw J ov (d + 4) 116 (48, [(0, .ref 0), (1, .int x1), (2, .int x2), (3, .int x3), (4, .int x4)], [.int (-4)], hh43) _
          refine xi_ireturn kc_116_48 mr_116 rfl ?_
          have zcm4 : ((-4) : Int32).toInt = (-4) := by decide
          exact kk (-4) hh43 (by omega) K44
        · refine xi_cmf (pc' := 37) kc_116_34 rfl (xc_lt_f (X := x3.toInt) (Y := 1) rfl (by decide) (by omega)) ?_
          refine xi_iload (pc' := 39) (x := x4) kc_116_37 rfl rfl ?_
          by_cases c45 : 0 ≤ x4.toInt
          · refine xi_ift (pc' := 49) kc_116_39 rfl (xc_ge_t (X := x4.toInt) (Y := 0) rfl (by decide) (by omega)) ?_
            refine xi_iload_n (pc' := 50) (x := x3) kc_116_49 rfl rfl ?_
            refine xi_bipush (pc' := 52) (v := 99) kc_116_50 rfl rfl ?_
            by_cases c46 : 99 < x3.toInt
            · refine xi_cmt (pc' := 75) kc_116_52 rfl (xc_gt_t (X := x3.toInt) (Y := 99) rfl (by decide) (by omega)) ?_
              refine xi_aload_n (pc' := 76) (x := 0) kc_116_75 rfl rfl ?_
              refine xi_bipush (pc' := 78) (v := (-6)) kc_116_76 rfl rfl ?_
              refine xi_virtual (mj := 90) (as := [.int (-6)]) (st1 := []) (lv0 := [(0, .ref 0), (1, .int (-6))]) kc_116_78 rfl rfl rfl rfl rfl A31 (Nat.le_of_ble_eq_true rfl) (hJ _ _ _ _ (by decide)) (xm_le ml_90 rfl) rfl ?_
              refine xi_iload_n (pc' := 1) (x := (-6)) kc_90_0 rfl rfl ?_
              refine xi_ineg (pc' := 2) (v := 6) kc_90_1 rfl rfl ?_
              refine xi_istore_n (pc' := 3) (lv' := [(2, .int 6), (0, .ref 0), (1, .int (-6))]) kc_90_2 rfl rfl (xm_lt ml_90 rfl) ?_
              refine xi_iload_n (pc' := 4) (x := 6) kc_90_3 rfl rfl ?_
              refine xi_iff (pc' := 7) kc_90_4 rfl rfl ?_
              refine xi_iload_n (pc' := 8) (x := 6) kc_90_7 rfl rfl ?_
              refine xi_aload_n (pc' := 9) (x := 0) kc_90_8 rfl rfl ?_
              refine xi_getfield (pc' := 12) (v := .ref 94) kc_90_9 rfl rfl rfl A31 rfl ?_
              refine xcps4 (xk_arr K28.1 xD_94) (fun y47 A47 hy47 ry47 => ?_)
              refine xi_arraylength (pc' := 13) (n := 7) (v := 7) kc_90_12 rfl (xl_lenI (by decide) (by decide) A47 hy47) rfl ?_
              refine xi_cmf (pc' := 16) kc_90_13 rfl rfl ?_
              refine xi_aload_n (pc' := 17) (x := 0) kc_90_16 rfl rfl ?_
              refine xi_getfield (pc' := 20) (v := .ref 94) kc_90_17 rfl rfl rfl A31 rfl ?_
              refine xi_iload_n (pc' := 21) (x := 6) kc_90_20 rfl rfl ?_
              refine xi_dup2 (pc' := 22) kc_90_21 rfl ⟨rfl, rfl⟩ ?_
              refine xcps4 (xj_get hy47 ry47 (i := 6) (by decide) (by decide)) (fun v48 ev48 bv48 dv48 => ?_)
              refine xi_iaload (pc' := 23) (v := v48) kc_90_22 rfl A47 (by decide) rfl (xi_in (by decide) (by rw [hy47]; decide)) ev48 ?_
              refine xi_iconst (pc' := 24) (v := 1) kc_90_23 rfl rfl ?_
              refine xcps2 (α := Int32) ((v48 : Int32) + 1) (fun v49 ev49 => ?_)
              have rv49 := xc_rng v49
              refine xi_iadd (pc' := 25) (v := v49) kc_90_24 rfl ev49 ?_
              refine xcps4 (xj_set (v := v49) hy47 ry47 6 (by first | omega | decide) (by first | omega | decide)) (fun y50 s50 hy50 ry50 => ?_)
              refine xi_iastore (pc' := 26) (x' := y50) kc_90_25 rfl A47 rfl (xi_in (by decide) (by rw [hy47]; decide)) s50 (fun hh50 eh50 => ?_)
              have K51 := xk_pa K28 (xk_wa rfl) xD_94 hy50 ry50 eh50
              refine xi_iload_n (pc' := 27) (x := (-6)) kc_90_26 rfl rfl ?_
              refine xi_ireturn kc_90_27 mr_90 rfl ?_
              show xw J ov (d + 4) 116 (81, [(0, .ref 0), (1, .int x1), (2, .int x2), (3, .int x3), (4, .int x4)], [.int (-6)], hh50) _
              refine xi_ireturn kc_116_81 mr_116 rfl ?_
              have zcm6 : ((-6) : Int32).toInt = (-6) := by decide
              exact kk (-6) hh50 (by omega) K51
            · refine xi_cmf (pc' := 55) kc_116_52 rfl (xc_gt_f (X := x3.toInt) (Y := 99) rfl (by decide) (by omega)) ?_
              refine xi_iload (pc' := 57) (x := x4) kc_116_55 rfl rfl ?_
              refine xi_sipush (pc' := 60) (v := 600) kc_116_57 rfl rfl ?_
              by_cases c52 : 600 < x4.toInt
              · refine xi_cmt (pc' := 75) kc_116_60 rfl (xc_gt_t (X := x4.toInt) (Y := 600) rfl (by decide) (by omega)) ?_
                refine xi_aload_n (pc' := 76) (x := 0) kc_116_75 rfl rfl ?_
                refine xi_bipush (pc' := 78) (v := (-6)) kc_116_76 rfl rfl ?_
                refine xi_virtual (mj := 90) (as := [.int (-6)]) (st1 := []) (lv0 := [(0, .ref 0), (1, .int (-6))]) kc_116_78 rfl rfl rfl rfl rfl A31 (Nat.le_of_ble_eq_true rfl) (hJ _ _ _ _ (by decide)) (xm_le ml_90 rfl) rfl ?_
                refine xi_iload_n (pc' := 1) (x := (-6)) kc_90_0 rfl rfl ?_
                refine xi_ineg (pc' := 2) (v := 6) kc_90_1 rfl rfl ?_
                refine xi_istore_n (pc' := 3) (lv' := [(2, .int 6), (0, .ref 0), (1, .int (-6))]) kc_90_2 rfl rfl (xm_lt ml_90 rfl) ?_
                refine xi_iload_n (pc' := 4) (x := 6) kc_90_3 rfl rfl ?_
                refine xi_iff (pc' := 7) kc_90_4 rfl rfl ?_
                refine xi_iload_n (pc' := 8) (x := 6) kc_90_7 rfl rfl ?_
                refine xi_aload_n (pc' := 9) (x := 0) kc_90_8 rfl rfl ?_
                refine xi_getfield (pc' := 12) (v := .ref 94) kc_90_9 rfl rfl rfl A31 rfl ?_
                refine xcps4 (xk_arr K28.1 xD_94) (fun y53 A53 hy53 ry53 => ?_)
                refine xi_arraylength (pc' := 13) (n := 7) (v := 7) kc_90_12 rfl (xl_lenI (by decide) (by decide) A53 hy53) rfl ?_
                refine xi_cmf (pc' := 16) kc_90_13 rfl rfl ?_
                refine xi_aload_n (pc' := 17) (x := 0) kc_90_16 rfl rfl ?_
                refine xi_getfield (pc' := 20) (v := .ref 94) kc_90_17 rfl rfl rfl A31 rfl ?_
                refine xi_iload_n (pc' := 21) (x := 6) kc_90_20 rfl rfl ?_
                refine xi_dup2 (pc' := 22) kc_90_21 rfl ⟨rfl, rfl⟩ ?_
                refine xcps4 (xj_get hy53 ry53 (i := 6) (by decide) (by decide)) (fun v54 ev54 bv54 dv54 => ?_)
                refine xi_iaload (pc' := 23) (v := v54) kc_90_22 rfl A53 (by decide) rfl (xi_in (by decide) (by rw [hy53]; decide)) ev54 ?_
                refine xi_iconst (pc' := 24) (v := 1) kc_90_23 rfl rfl ?_
                refine xcps2 (α := Int32) ((v54 : Int32) + 1) (fun v55 ev55 => ?_)
                have rv55 := xc_rng v55
                refine xi_iadd (pc' := 25) (v := v55) kc_90_24 rfl ev55 ?_
                refine xcps4 (xj_set (v := v55) hy53 ry53 6 (by first | omega | decide) (by first | omega | decide)) (fun y56 s56 hy56 ry56 => ?_)
                refine xi_iastore (pc' := 26) (x' := y56) kc_90_25 rfl A53 rfl (xi_in (by decide) (by rw [hy53]; decide)) s56 (fun hh56 eh56 => ?_)
                have K57 := xk_pa K28 (xk_wa rfl) xD_94 hy56 ry56 eh56
                refine xi_iload_n (pc' := 27) (x := (-6)) kc_90_26 rfl rfl ?_
                refine xi_ireturn kc_90_27 mr_90 rfl ?_
                show xw J ov (d + 4) 116 (81, [(0, .ref 0), (1, .int x1), (2, .int x2), (3, .int x3), (4, .int x4)], [.int (-6)], hh56) _
                refine xi_ireturn kc_116_81 mr_116 rfl ?_
                have zcm6 : ((-6) : Int32).toInt = (-6) := by decide
                exact kk (-6) hh56 (by omega) K57
              · refine xi_cmf (pc' := 63) kc_116_60 rfl (xc_gt_f (X := x4.toInt) (Y := 600) rfl (by decide) (by omega)) ?_
                refine xi_aload_n (pc' := 64) (x := 0) kc_116_63 rfl rfl ?_
                refine xi_getfield (pc' := 67) (v := .ref 1) kc_116_64 rfl rfl rfl A31 rfl ?_
                refine xp_1 K28.1 (fun u58 u59 bu58 bu59 A60 => ?_)
                refine xi_getfield (pc' := 70) (v := .int u58) kc_116_67 rfl rfl rfl A60 rfl ?_
                refine xi_bipush (pc' := 72) (v := 10) kc_116_70 rfl rfl ?_
                by_cases c61 : u58.toInt < 10
                · refine xi_cmt (pc' := 82) kc_116_72 rfl (xc_lt_t (X := u58.toInt) (Y := 10) rfl (by decide) (by omega)) ?_
                  refine xi_aload_n (pc' := 83) (x := 0) kc_116_82 rfl rfl ?_
                  refine xi_getfield (pc' := 86) (v := .ref 1) kc_116_83 rfl rfl rfl A31 rfl ?_
                  refine xi_iload_n (pc' := 87) (x := x1) kc_116_86 rfl rfl ?_
                  refine xi_iload_n (pc' := 88) (x := x2) kc_116_87 rfl rfl ?_
                  refine xi_iload_n (pc' := 89) (x := x3) kc_116_88 rfl rfl ?_
                  refine xi_iload (pc' := 91) (x := x4) kc_116_89 rfl rfl ?_
                  refine xi_virtual (mj := 119) (as := [.int x1, .int x2, .int x3, .int x4]) (st1 := []) (lv0 := [(0, .ref 1), (1, .int x1), (2, .int x2), (3, .int x3), (4, .int x4)]) kc_116_91 rfl rfl rfl rfl rfl A60 (Nat.le_of_ble_eq_true rfl) (hJ _ _ _ _ (by decide)) (xm_le ml_119 rfl) rfl ?_
                  refine xi_aload_n (pc' := 1) (x := 1) kc_119_0 rfl rfl ?_
                  refine xi_getfield (pc' := 4) (v := .int u58) kc_119_1 rfl rfl rfl A60 rfl ?_
                  refine xi_bipush (pc' := 6) (v := 10) kc_119_4 rfl rfl ?_
                  refine xi_cmt (pc' := 12) kc_119_6 rfl (xc_lt_t (X := u58.toInt) (Y := 10) rfl (by decide) (by omega)) ?_
                  refine xi_aload_n (pc' := 13) (x := 1) kc_119_12 rfl rfl ?_
                  refine xi_getfield (pc' := 16) (v := .ref 4) kc_119_13 rfl rfl rfl A60 rfl ?_
                  refine xi_aload_n (pc' := 17) (x := 1) kc_119_16 rfl rfl ?_
                  refine xi_getfield (pc' := 20) (v := .int u58) kc_119_17 rfl rfl rfl A60 rfl ?_
                  have A62 := xk_ex K28.1 xD_4
                  obtain ⟨pt63, ept63, mpt63⟩ := xR_4 (i := u58) (by omega) (by omega)
                  refine xj_aaload (pc' := 21) (b := pt63) kc_119_20 rfl A62 rfl (xi_in (n := 10) (by omega) (by omega)) ept63 ?_
                  refine xi_astore (pc' := 23) (lv' := [(5, .ref pt63), (0, .ref 1), (1, .int x1), (2, .int x2), (3, .int x3), (4, .int x4)]) kc_119_21 rfl rfl (xm_lt ml_119 rfl) ?_
                  refine xi_aload (pc' := 25) (x := pt63) kc_119_23 rfl rfl ?_
                  refine xi_iload_n (pc' := 26) (x := x1) kc_119_25 rfl rfl ?_
                  obtain ⟨u64, u65, u66, u67, bu64, bu65, bu66, bu67, A68⟩ := xg_cause K28.1 mpt63
                  refine xi_putfield (pc' := 29) (fs' := [.int x1, .int u65, .int u66, .int u67]) kc_119_26 rfl rfl rfl A68 rfl rfl rfl (Nat.le_of_ble_eq_true rfl) rfl (fun hh70 eh69 => ?_)
                  obtain ⟨ds71, Dds71, dds71_0, dds71_1, dds71_2, dds71_3⟩ := xGo_cause mpt63
                  have K72 := xk_pf (k := 0) (v := x1) K28 (xk_gf mpt63 rfl) Dds71 A68 dds71_0 (by first | omega | decide) (by first | omega | decide) eh69 rfl
                  refine xi_aload (pc' := 31) (x := pt63) kc_119_29 rfl rfl ?_
                  refine xi_iload_n (pc' := 32) (x := x2) kc_119_31 rfl rfl ?_
                  refine xi_putfield (pc' := 35) (fs' := [.int x1, .int x2, .int u66, .int u67]) kc_119_32 rfl rfl rfl eh69.1 rfl rfl rfl (Nat.le_of_ble_eq_true rfl) rfl (fun hh74 eh73 => ?_)
                  obtain ⟨ds75, Dds75, dds75_0, dds75_1, dds75_2, dds75_3⟩ := xGo_cause mpt63
                  have K76 := xk_pf (k := 1) (v := x2) K72 (xk_gf mpt63 rfl) Dds75 eh69.1 dds75_1 (by first | omega | decide) (by first | omega | decide) eh73 rfl
                  refine xi_aload (pc' := 37) (x := pt63) kc_119_35 rfl rfl ?_
                  refine xi_iload_n (pc' := 38) (x := x3) kc_119_37 rfl rfl ?_
                  refine xi_putfield (pc' := 41) (fs' := [.int x1, .int x2, .int x3, .int u67]) kc_119_38 rfl rfl rfl eh73.1 rfl rfl rfl (Nat.le_of_ble_eq_true rfl) rfl (fun hh78 eh77 => ?_)
                  obtain ⟨ds79, Dds79, dds79_0, dds79_1, dds79_2, dds79_3⟩ := xGo_cause mpt63
                  have K80 := xk_pf (k := 2) (v := x3) K76 (xk_gf mpt63 rfl) Dds79 eh73.1 dds79_2 (by first | omega | decide) (by first | omega | decide) eh77 rfl
                  refine xi_aload (pc' := 43) (x := pt63) kc_119_41 rfl rfl ?_
                  refine xi_iload (pc' := 45) (x := x4) kc_119_43 rfl rfl ?_
                  refine xi_putfield (pc' := 48) (fs' := [.int x1, .int x2, .int x3, .int x4]) kc_119_45 rfl rfl rfl eh77.1 rfl rfl rfl (Nat.le_of_ble_eq_true rfl) rfl (fun hh82 eh81 => ?_)
                  obtain ⟨ds83, Dds83, dds83_0, dds83_1, dds83_2, dds83_3⟩ := xGo_cause mpt63
                  have K84 := xk_pf (k := 3) (v := x4) K80 (xk_gf mpt63 rfl) Dds83 eh77.1 dds83_3 (by first | omega | decide) (by first | omega | decide) eh81 rfl
                  refine xi_aload_n (pc' := 49) (x := 1) kc_119_48 rfl rfl ?_
                  refine xi_dup (pc' := 50) kc_119_49 rfl rfl ?_
                  have A85 := ((eh81.2.1 1 (xk_nc mpt63 rfl)).trans ((eh77.2.1 1 (xk_nc mpt63 rfl)).trans ((eh73.2.1 1 (xk_nc mpt63 rfl)).trans ((eh69.2.1 1 (xk_nc mpt63 rfl)).trans A60))))
                  refine xi_getfield (pc' := 53) (v := .int u58) kc_119_50 rfl rfl rfl A85 rfl ?_
                  refine xi_iconst (pc' := 54) (v := 1) kc_119_53 rfl rfl ?_
                  refine xcps2 (α := Int32) (u58 + 1) (fun v86 ev86 => ?_)
                  have zv86 : v86.toInt = (u58.toInt + 1) := by rw [← ev86]; exact (xz_add (X := u58.toInt) (Y := 1) rfl (by decide) (by omega) (by omega)).trans (by omega)
                  refine xi_iadd (pc' := 55) (v := v86) kc_119_54 rfl ev86 ?_
                  refine xi_putfield (pc' := 58) (fs' := [.ref 2, .ref 3, .ref 4, .ref 5, .ref 8, .int v86, .int u59]) kc_119_55 rfl rfl rfl A85 rfl rfl rfl (Nat.le_of_ble_eq_true rfl) rfl (fun hh88 eh87 => ?_)
                  have K89 := xk_pf (k := 5) (v := v86) K84 (xk_wf rfl) xD_1 A85 rfl (by first | omega | decide) (by first | omega | decide) eh87 rfl
                  refine xi_aload_n (pc' := 59) (x := 1) kc_119_58 rfl rfl ?_
                  refine xi_getfield (pc' := 62) (v := .int v86) kc_119_59 rfl rfl rfl eh87.1 rfl ?_
                  refine xi_iconst (pc' := 63) (v := 1) kc_119_62 rfl rfl ?_
                  refine xcps2 (α := Int32) (v86 - 1) (fun v90 ev90 => ?_)
                  have zv90 : v90.toInt = u58.toInt := by rw [← ev90]; exact (xz_sub (X := (u58.toInt + 1)) (Y := 1) zv86 (by decide) (by omega) (by omega)).trans (by omega)
                  refine xi_isub (pc' := 64) (v := v90) kc_119_63 rfl ev90 ?_
                  refine xi_ireturn kc_119_64 mr_119 rfl ?_
                  show xw J ov (d + 4) 116 (94, [(0, .ref 0), (1, .int x1), (2, .int x2), (3, .int x3), (4, .int x4)], [.int v90], hh88) _
                  refine xi_ireturn kc_116_94 mr_116 rfl ?_
                  exact kk v90 hh88 (by omega) K89
                · refine xi_cmf (pc' := 75) kc_116_72 rfl (xc_lt_f (X := u58.toInt) (Y := 10) rfl (by decide) (by omega)) ?_
                  refine xi_aload_n (pc' := 76) (x := 0) kc_116_75 rfl rfl ?_
                  refine xi_bipush (pc' := 78) (v := (-6)) kc_116_76 rfl rfl ?_
                  refine xi_virtual (mj := 90) (as := [.int (-6)]) (st1 := []) (lv0 := [(0, .ref 0), (1, .int (-6))]) kc_116_78 rfl rfl rfl rfl rfl A31 (Nat.le_of_ble_eq_true rfl) (hJ _ _ _ _ (by decide)) (xm_le ml_90 rfl) rfl ?_
                  refine xi_iload_n (pc' := 1) (x := (-6)) kc_90_0 rfl rfl ?_
                  refine xi_ineg (pc' := 2) (v := 6) kc_90_1 rfl rfl ?_
                  refine xi_istore_n (pc' := 3) (lv' := [(2, .int 6), (0, .ref 0), (1, .int (-6))]) kc_90_2 rfl rfl (xm_lt ml_90 rfl) ?_
                  refine xi_iload_n (pc' := 4) (x := 6) kc_90_3 rfl rfl ?_
                  refine xi_iff (pc' := 7) kc_90_4 rfl rfl ?_
                  refine xi_iload_n (pc' := 8) (x := 6) kc_90_7 rfl rfl ?_
                  refine xi_aload_n (pc' := 9) (x := 0) kc_90_8 rfl rfl ?_
                  refine xi_getfield (pc' := 12) (v := .ref 94) kc_90_9 rfl rfl rfl A31 rfl ?_
                  refine xcps4 (xk_arr K28.1 xD_94) (fun y91 A91 hy91 ry91 => ?_)
                  refine xi_arraylength (pc' := 13) (n := 7) (v := 7) kc_90_12 rfl (xl_lenI (by decide) (by decide) A91 hy91) rfl ?_
                  refine xi_cmf (pc' := 16) kc_90_13 rfl rfl ?_
                  refine xi_aload_n (pc' := 17) (x := 0) kc_90_16 rfl rfl ?_
                  refine xi_getfield (pc' := 20) (v := .ref 94) kc_90_17 rfl rfl rfl A31 rfl ?_
                  refine xi_iload_n (pc' := 21) (x := 6) kc_90_20 rfl rfl ?_
                  refine xi_dup2 (pc' := 22) kc_90_21 rfl ⟨rfl, rfl⟩ ?_
                  refine xcps4 (xj_get hy91 ry91 (i := 6) (by decide) (by decide)) (fun v92 ev92 bv92 dv92 => ?_)
                  refine xi_iaload (pc' := 23) (v := v92) kc_90_22 rfl A91 (by decide) rfl (xi_in (by decide) (by rw [hy91]; decide)) ev92 ?_
                  refine xi_iconst (pc' := 24) (v := 1) kc_90_23 rfl rfl ?_
                  refine xcps2 (α := Int32) ((v92 : Int32) + 1) (fun v93 ev93 => ?_)
                  have rv93 := xc_rng v93
                  refine xi_iadd (pc' := 25) (v := v93) kc_90_24 rfl ev93 ?_
                  refine xcps4 (xj_set (v := v93) hy91 ry91 6 (by first | omega | decide) (by first | omega | decide)) (fun y94 s94 hy94 ry94 => ?_)
                  refine xi_iastore (pc' := 26) (x' := y94) kc_90_25 rfl A91 rfl (xi_in (by decide) (by rw [hy91]; decide)) s94 (fun hh94 eh94 => ?_)
                  have K95 := xk_pa K28 (xk_wa rfl) xD_94 hy94 ry94 eh94
                  refine xi_iload_n (pc' := 27) (x := (-6)) kc_90_26 rfl rfl ?_
                  refine xi_ireturn kc_90_27 mr_90 rfl ?_
                  show xw J ov (d + 4) 116 (81, [(0, .ref 0), (1, .int x1), (2, .int x2), (3, .int x3), (4, .int x4)], [.int (-6)], hh94) _
                  refine xi_ireturn kc_116_81 mr_116 rfl ?_
                  have zcm6 : ((-6) : Int32).toInt = (-6) := by decide
                  exact kk (-6) hh94 (by omega) K95
          · refine xi_iff (pc' := 42) kc_116_39 rfl (xc_ge_f (X := x4.toInt) (Y := 0) rfl (by decide) (by omega)) ?_
            refine xi_aload_n (pc' := 43) (x := 0) kc_116_42 rfl rfl ?_
            refine xi_bipush (pc' := 45) (v := (-4)) kc_116_43 rfl rfl ?_
            refine xi_virtual (mj := 90) (as := [.int (-4)]) (st1 := []) (lv0 := [(0, .ref 0), (1, .int (-4))]) kc_116_45 rfl rfl rfl rfl rfl A31 (Nat.le_of_ble_eq_true rfl) (hJ _ _ _ _ (by decide)) (xm_le ml_90 rfl) rfl ?_
            refine xi_iload_n (pc' := 1) (x := (-4)) kc_90_0 rfl rfl ?_
            refine xi_ineg (pc' := 2) (v := 4) kc_90_1 rfl rfl ?_
            refine xi_istore_n (pc' := 3) (lv' := [(2, .int 4), (0, .ref 0), (1, .int (-4))]) kc_90_2 rfl rfl (xm_lt ml_90 rfl) ?_
            refine xi_iload_n (pc' := 4) (x := 4) kc_90_3 rfl rfl ?_
            refine xi_iff (pc' := 7) kc_90_4 rfl rfl ?_
            refine xi_iload_n (pc' := 8) (x := 4) kc_90_7 rfl rfl ?_
            refine xi_aload_n (pc' := 9) (x := 0) kc_90_8 rfl rfl ?_
            refine xi_getfield (pc' := 12) (v := .ref 94) kc_90_9 rfl rfl rfl A31 rfl ?_
            refine xcps4 (xk_arr K28.1 xD_94) (fun y96 A96 hy96 ry96 => ?_)
            refine xi_arraylength (pc' := 13) (n := 7) (v := 7) kc_90_12 rfl (xl_lenI (by decide) (by decide) A96 hy96) rfl ?_
            refine xi_cmf (pc' := 16) kc_90_13 rfl rfl ?_
            refine xi_aload_n (pc' := 17) (x := 0) kc_90_16 rfl rfl ?_
            refine xi_getfield (pc' := 20) (v := .ref 94) kc_90_17 rfl rfl rfl A31 rfl ?_
            refine xi_iload_n (pc' := 21) (x := 4) kc_90_20 rfl rfl ?_
            refine xi_dup2 (pc' := 22) kc_90_21 rfl ⟨rfl, rfl⟩ ?_
            refine xcps4 (xj_get hy96 ry96 (i := 4) (by decide) (by decide)) (fun v97 ev97 bv97 dv97 => ?_)
            refine xi_iaload (pc' := 23) (v := v97) kc_90_22 rfl A96 (by decide) rfl (xi_in (by decide) (by rw [hy96]; decide)) ev97 ?_
            refine xi_iconst (pc' := 24) (v := 1) kc_90_23 rfl rfl ?_
            refine xcps2 (α := Int32) ((v97 : Int32) + 1) (fun v98 ev98 => ?_)
            have rv98 := xc_rng v98
            refine xi_iadd (pc' := 25) (v := v98) kc_90_24 rfl ev98 ?_
            refine xcps4 (xj_set (v := v98) hy96 ry96 4 (by first | omega | decide) (by first | omega | decide)) (fun y99 s99 hy99 ry99 => ?_)
            refine xi_iastore (pc' := 26) (x' := y99) kc_90_25 rfl A96 rfl (xi_in (by decide) (by rw [hy96]; decide)) s99 (fun hh99 eh99 => ?_)
            have K100 := xk_pa K28 (xk_wa rfl) xD_94 hy99 ry99 eh99
            refine xi_iload_n (pc' := 27) (x := (-4)) kc_90_26 rfl rfl ?_
            refine xi_ireturn kc_90_27 mr_90 rfl ?_
            show xw J ov (d + 4) 116 (48, [(0, .ref 0), (1, .int x1), (2, .int x2), (3, .int x3), (4, .int x4)], [.int (-4)], hh99) _
            refine xi_ireturn kc_116_48 mr_116 rfl ?_
            have zcm4 : ((-4) : Int32).toInt = (-4) := by decide
            exact kk (-4) hh99 (by omega) K100
set_option maxHeartbeats 4000000 in
theorem mt_120_0 {J : xe_J} {ov : List (List Int32)} (hJ : ∀ d mj as h, mj ≠ xe_loff → J d mj as h = none) (hov1 : ov[1]? = some [10, 0, 0, 0, 0, 0]) (hov2 : ov[2]? = some [99, 30, 50, 50, 1, 99999]) {d : Nat} {Q : Option Value → xe_H → Prop} {h : xe_H} {x1 : Int32} {x2 : Int32} (T : xt h) (b2 : (0 ≤ x2.toInt ∧ x2.toInt ≤ 1)) (kk : (∀ (r : Int32) (h' : xe_H), ((-1) ≤ r.toInt ∧ r.toInt ≤ 1) → xk [(0, 9), (115, 1), (83, 0), (29, 0), (31, 0), (33, 0), (35, 0), (37, 0), (39, 0), (41, 0), (43, 0), (45, 0), (47, 0), (49, 0), (51, 0), (125, 0), (66, 8), (115, 18), (71, 0), (132, 0)] h h' → Q (some (.int r)) h')) : xw J ov (d + 1) 120 (0, [(0, .ref 0), (1, .int x1), (2, .int x2)], [], h) Q := by
  have K : xk [(0, 9), (115, 1), (83, 0), (29, 0), (31, 0), (33, 0), (35, 0), (37, 0), (39, 0), (41, 0), (43, 0), (45, 0), (47, 0), (49, 0), (51, 0), (125, 0), (66, 8), (115, 18), (71, 0), (132, 0)] h h := xk_re T
  have rx1 := xc_rng x1
  refine xi_iload_n (pc' := 1) (x := x1) kc_120_0 rfl rfl ?_
  by_cases c1 : x1.toInt < 0
  · refine xi_ift (pc' := 15) kc_120_1 rfl (xc_lt_t (X := x1.toInt) (Y := 0) rfl (by decide) (by omega)) ?_
    refine xi_aload_n (pc' := 16) (x := 0) kc_120_15 rfl rfl ?_
    refine xi_iconst (pc' := 17) (v := (-1)) kc_120_16 rfl rfl ?_
    refine xp_0 K.1 (fun u2 u3 bu2 bu3 A4 => ?_)
    refine xi_virtual (mj := 90) (as := [.int (-1)]) (st1 := []) (lv0 := [(0, .ref 0), (1, .int (-1))]) kc_120_17 rfl rfl rfl rfl rfl A4 (Nat.le_of_ble_eq_true rfl) (hJ _ _ _ _ (by decide)) (xm_le ml_90 rfl) rfl ?_
    refine xi_iload_n (pc' := 1) (x := (-1)) kc_90_0 rfl rfl ?_
    refine xi_ineg (pc' := 2) (v := 1) kc_90_1 rfl rfl ?_
    refine xi_istore_n (pc' := 3) (lv' := [(2, .int 1), (0, .ref 0), (1, .int (-1))]) kc_90_2 rfl rfl (xm_lt ml_90 rfl) ?_
    refine xi_iload_n (pc' := 4) (x := 1) kc_90_3 rfl rfl ?_
    refine xi_iff (pc' := 7) kc_90_4 rfl rfl ?_
    refine xi_iload_n (pc' := 8) (x := 1) kc_90_7 rfl rfl ?_
    refine xi_aload_n (pc' := 9) (x := 0) kc_90_8 rfl rfl ?_
    refine xi_getfield (pc' := 12) (v := .ref 94) kc_90_9 rfl rfl rfl A4 rfl ?_
    refine xcps4 (xk_arr K.1 xD_94) (fun y5 A5 hy5 ry5 => ?_)
    refine xi_arraylength (pc' := 13) (n := 7) (v := 7) kc_90_12 rfl (xl_lenI (by decide) (by decide) A5 hy5) rfl ?_
    refine xi_cmf (pc' := 16) kc_90_13 rfl rfl ?_
    refine xi_aload_n (pc' := 17) (x := 0) kc_90_16 rfl rfl ?_
    refine xi_getfield (pc' := 20) (v := .ref 94) kc_90_17 rfl rfl rfl A4 rfl ?_
    refine xi_iload_n (pc' := 21) (x := 1) kc_90_20 rfl rfl ?_
    refine xi_dup2 (pc' := 22) kc_90_21 rfl ⟨rfl, rfl⟩ ?_
    refine xcps4 (xj_get hy5 ry5 (i := 1) (by decide) (by decide)) (fun v6 ev6 bv6 dv6 => ?_)
    refine xi_iaload (pc' := 23) (v := v6) kc_90_22 rfl A5 (by decide) rfl (xi_in (by decide) (by rw [hy5]; decide)) ev6 ?_
    refine xi_iconst (pc' := 24) (v := 1) kc_90_23 rfl rfl ?_
    refine xcps2 (α := Int32) ((v6 : Int32) + 1) (fun v7 ev7 => ?_)
    have rv7 := xc_rng v7
    refine xi_iadd (pc' := 25) (v := v7) kc_90_24 rfl ev7 ?_
    refine xcps4 (xj_set (v := v7) hy5 ry5 1 (by first | omega | decide) (by first | omega | decide)) (fun y8 s8 hy8 ry8 => ?_)
    refine xi_iastore (pc' := 26) (x' := y8) kc_90_25 rfl A5 rfl (xi_in (by decide) (by rw [hy5]; decide)) s8 (fun hh8 eh8 => ?_)
    have K9 := xk_pa K (xk_wa rfl) xD_94 hy8 ry8 eh8
    refine xi_iload_n (pc' := 27) (x := (-1)) kc_90_26 rfl rfl ?_
    refine xi_ireturn kc_90_27 mr_90 rfl ?_
    show xw J ov (d + 1) 120 (20, [(0, .ref 0), (1, .int x1), (2, .int x2)], [.int (-1)], hh8) _
    refine xi_ireturn kc_120_20 mr_120 rfl ?_
    have zcm1 : ((-1) : Int32).toInt = (-1) := by decide
    exact kk (-1) hh8 (by omega) K9
  · refine xi_iff (pc' := 4) kc_120_1 rfl (xc_lt_f (X := x1.toInt) (Y := 0) rfl (by decide) (by omega)) ?_
    refine xi_iload_n (pc' := 5) (x := x1) kc_120_4 rfl rfl ?_
    refine xi_aload_n (pc' := 6) (x := 0) kc_120_5 rfl rfl ?_
    refine xp_0 K.1 (fun u10 u11 bu10 bu11 A12 => ?_)
    refine xi_getfield (pc' := 9) (v := .ref 1) kc_120_6 rfl rfl rfl A12 rfl ?_
    refine xp_1 K.1 (fun u13 u14 bu13 bu14 A15 => ?_)
    refine xi_getfield (pc' := 12) (v := .int u13) kc_120_9 rfl rfl rfl A15 rfl ?_
    by_cases c16 : x1.toInt < u13.toInt
    · refine xi_cmt (pc' := 21) kc_120_12 rfl (xc_lt_t (X := x1.toInt) (Y := u13.toInt) rfl rfl (by omega)) ?_
      refine xi_iconst (pc' := 22) (v := 1) kc_120_21 rfl rfl ?_
      refine xi_iload_n (pc' := 23) (x := x1) kc_120_22 rfl rfl ?_
      refine xcps2 (α := Int32) ((1 : Int32) <<< (x1 &&& 31)) (fun v17 ev17 => ?_)
      have rv17 := xc_rng v17
      refine xi_ishl (pc' := 24) (v := v17) kc_120_23 rfl ev17 ?_
      refine xi_istore_n (pc' := 25) (lv' := [(3, .int v17), (0, .ref 0), (1, .int x1), (2, .int x2)]) kc_120_24 rfl rfl (xm_lt ml_120 rfl) ?_
      refine xi_aload_n (pc' := 26) (x := 0) kc_120_25 rfl rfl ?_
      refine xi_getfield (pc' := 29) (v := .ref 63) kc_120_26 rfl rfl rfl A12 rfl ?_
      refine xp_63 K.1 (fun u18 u19 bu18 bu19 A20 => ?_)
      refine xi_getfield (pc' := 32) (v := .int u18) kc_120_29 rfl rfl rfl A20 rfl ?_
      refine xi_iload_n (pc' := 33) (x := v17) kc_120_32 rfl rfl ?_
      refine xcps2 (α := Int32) ((u18 : Int32) &&& v17) (fun v21 ev21 => ?_)
      have rv21 := xc_rng v21
      refine xi_iand (pc' := 34) (v := v21) kc_120_33 rfl ev21 ?_
      by_cases c22 : v21.toInt = 0
      · refine xi_ift (pc' := 41) kc_120_34 rfl (xc_eq_t (X := v21.toInt) (Y := 0) rfl (by decide) (by omega)) ?_
        refine xi_iconst (pc' := 42) (v := 0) kc_120_41 rfl rfl ?_
        refine xi_istore (pc' := 44) (lv' := [(4, .int 0), (3, .int v17), (0, .ref 0), (1, .int x1), (2, .int x2)]) kc_120_42 rfl rfl (xm_lt ml_120 rfl) ?_
        refine xi_iload (pc' := 46) (x := 0) kc_120_44 rfl rfl ?_
        refine xi_iload_n (pc' := 47) (x := x2) kc_120_46 rfl rfl ?_
        by_cases c23 : 0 = x2.toInt
        · refine xi_cmf (pc' := 50) kc_120_47 rfl (xc_ne_f (X := 0) (Y := x2.toInt) (by decide) rfl (by omega)) ?_
          refine xi_iconst (pc' := 51) (v := 0) kc_120_50 rfl rfl ?_
          refine xi_ireturn kc_120_51 mr_120 rfl ?_
          have zc0 : (0 : Int32).toInt = 0 := by decide
          exact kk 0 h (by omega) K
        · refine xi_cmt (pc' := 52) kc_120_47 rfl (xc_ne_t (X := 0) (Y := x2.toInt) (by decide) rfl (by omega)) ?_
          refine xi_aload_n (pc' := 53) (x := 0) kc_120_52 rfl rfl ?_
          refine xi_getfield (pc' := 56) (v := .ref 63) kc_120_53 rfl rfl rfl A12 rfl ?_
          refine xi_dup (pc' := 57) kc_120_56 rfl rfl ?_
          refine xi_getfield (pc' := 60) (v := .int u18) kc_120_57 rfl rfl rfl A20 rfl ?_
          refine xi_iload_n (pc' := 61) (x := v17) kc_120_60 rfl rfl ?_
          refine xcps2 (α := Int32) ((u18 : Int32) ^^^ v17) (fun v24 ev24 => ?_)
          have rv24 := xc_rng v24
          refine xi_ixor (pc' := 62) (v := v24) kc_120_61 rfl ev24 ?_
          refine xi_putfield (pc' := 65) (fs' := [.ref 64, .ref 65, .int v24, .int u19]) kc_120_62 rfl rfl rfl A20 rfl rfl rfl (Nat.le_of_ble_eq_true rfl) rfl (fun hh26 eh25 => ?_)
          have K27 := xk_pf (k := 2) (v := v24) K (xk_wf rfl) xD_63 A20 rfl (by first | omega | decide) (by first | omega | decide) eh25 rfl
          refine xi_iconst (pc' := 66) (v := 1) kc_120_65 rfl rfl ?_
          refine xi_ireturn kc_120_66 mr_120 rfl ?_
          have zc1 : (1 : Int32).toInt = 1 := by decide
          exact kk 1 hh26 (by omega) K27
      · refine xi_iff (pc' := 37) kc_120_34 rfl (xc_eq_f (X := v21.toInt) (Y := 0) rfl (by decide) (by omega)) ?_
        refine xi_iconst (pc' := 38) (v := 1) kc_120_37 rfl rfl ?_
        refine xi_goto (pc' := 42) kc_120_38 rfl ?_
        refine xi_istore (pc' := 44) (lv' := [(4, .int 1), (3, .int v17), (0, .ref 0), (1, .int x1), (2, .int x2)]) kc_120_42 rfl rfl (xm_lt ml_120 rfl) ?_
        refine xi_iload (pc' := 46) (x := 1) kc_120_44 rfl rfl ?_
        refine xi_iload_n (pc' := 47) (x := x2) kc_120_46 rfl rfl ?_
        by_cases c28 : 1 = x2.toInt
        · refine xi_cmf (pc' := 50) kc_120_47 rfl (xc_ne_f (X := 1) (Y := x2.toInt) (by decide) rfl (by omega)) ?_
          refine xi_iconst (pc' := 51) (v := 0) kc_120_50 rfl rfl ?_
          refine xi_ireturn kc_120_51 mr_120 rfl ?_
          have zc0 : (0 : Int32).toInt = 0 := by decide
          exact kk 0 h (by omega) K
        · refine xi_cmt (pc' := 52) kc_120_47 rfl (xc_ne_t (X := 1) (Y := x2.toInt) (by decide) rfl (by omega)) ?_
          refine xi_aload_n (pc' := 53) (x := 0) kc_120_52 rfl rfl ?_
          refine xi_getfield (pc' := 56) (v := .ref 63) kc_120_53 rfl rfl rfl A12 rfl ?_
          refine xi_dup (pc' := 57) kc_120_56 rfl rfl ?_
          refine xi_getfield (pc' := 60) (v := .int u18) kc_120_57 rfl rfl rfl A20 rfl ?_
          refine xi_iload_n (pc' := 61) (x := v17) kc_120_60 rfl rfl ?_
          refine xcps2 (α := Int32) ((u18 : Int32) ^^^ v17) (fun v29 ev29 => ?_)
          have rv29 := xc_rng v29
          refine xi_ixor (pc' := 62) (v := v29) kc_120_61 rfl ev29 ?_
          refine xi_putfield (pc' := 65) (fs' := [.ref 64, .ref 65, .int v29, .int u19]) kc_120_62 rfl rfl rfl A20 rfl rfl rfl (Nat.le_of_ble_eq_true rfl) rfl (fun hh31 eh30 => ?_)
          have K32 := xk_pf (k := 2) (v := v29) K (xk_wf rfl) xD_63 A20 rfl (by first | omega | decide) (by first | omega | decide) eh30 rfl
          refine xi_iconst (pc' := 66) (v := 1) kc_120_65 rfl rfl ?_
          refine xi_ireturn kc_120_66 mr_120 rfl ?_
          have zc1 : (1 : Int32).toInt = 1 := by decide
          exact kk 1 hh31 (by omega) K32
    · refine xi_cmf (pc' := 15) kc_120_12 rfl (xc_lt_f (X := x1.toInt) (Y := u13.toInt) rfl rfl (by omega)) ?_
      refine xi_aload_n (pc' := 16) (x := 0) kc_120_15 rfl rfl ?_
      refine xi_iconst (pc' := 17) (v := (-1)) kc_120_16 rfl rfl ?_
      refine xi_virtual (mj := 90) (as := [.int (-1)]) (st1 := []) (lv0 := [(0, .ref 0), (1, .int (-1))]) kc_120_17 rfl rfl rfl rfl rfl A12 (Nat.le_of_ble_eq_true rfl) (hJ _ _ _ _ (by decide)) (xm_le ml_90 rfl) rfl ?_
      refine xi_iload_n (pc' := 1) (x := (-1)) kc_90_0 rfl rfl ?_
      refine xi_ineg (pc' := 2) (v := 1) kc_90_1 rfl rfl ?_
      refine xi_istore_n (pc' := 3) (lv' := [(2, .int 1), (0, .ref 0), (1, .int (-1))]) kc_90_2 rfl rfl (xm_lt ml_90 rfl) ?_
      refine xi_iload_n (pc' := 4) (x := 1) kc_90_3 rfl rfl ?_
      refine xi_iff (pc' := 7) kc_90_4 rfl rfl ?_
      refine xi_iload_n (pc' := 8) (x := 1) kc_90_7 rfl rfl ?_
      refine xi_aload_n (pc' := 9) (x := 0) kc_90_8 rfl rfl ?_
      refine xi_getfield (pc' := 12) (v := .ref 94) kc_90_9 rfl rfl rfl A12 rfl ?_
      refine xcps4 (xk_arr K.1 xD_94) (fun y33 A33 hy33 ry33 => ?_)
      refine xi_arraylength (pc' := 13) (n := 7) (v := 7) kc_90_12 rfl (xl_lenI (by decide) (by decide) A33 hy33) rfl ?_
      refine xi_cmf (pc' := 16) kc_90_13 rfl rfl ?_
      refine xi_aload_n (pc' := 17) (x := 0) kc_90_16 rfl rfl ?_
      refine xi_getfield (pc' := 20) (v := .ref 94) kc_90_17 rfl rfl rfl A12 rfl ?_
      refine xi_iload_n (pc' := 21) (x := 1) kc_90_20 rfl rfl ?_
      refine xi_dup2 (pc' := 22) kc_90_21 rfl ⟨rfl, rfl⟩ ?_
      refine xcps4 (xj_get hy33 ry33 (i := 1) (by decide) (by decide)) (fun v34 ev34 bv34 dv34 => ?_)
      refine xi_iaload (pc' := 23) (v := v34) kc_90_22 rfl A33 (by decide) rfl (xi_in (by decide) (by rw [hy33]; decide)) ev34 ?_
      refine xi_iconst (pc' := 24) (v := 1) kc_90_23 rfl rfl ?_
      refine xcps2 (α := Int32) ((v34 : Int32) + 1) (fun v35 ev35 => ?_)
      have rv35 := xc_rng v35
      refine xi_iadd (pc' := 25) (v := v35) kc_90_24 rfl ev35 ?_
      refine xcps4 (xj_set (v := v35) hy33 ry33 1 (by first | omega | decide) (by first | omega | decide)) (fun y36 s36 hy36 ry36 => ?_)
      refine xi_iastore (pc' := 26) (x' := y36) kc_90_25 rfl A33 rfl (xi_in (by decide) (by rw [hy33]; decide)) s36 (fun hh36 eh36 => ?_)
      have K37 := xk_pa K (xk_wa rfl) xD_94 hy36 ry36 eh36
      refine xi_iload_n (pc' := 27) (x := (-1)) kc_90_26 rfl rfl ?_
      refine xi_ireturn kc_90_27 mr_90 rfl ?_
      show xw J ov (d + 1) 120 (20, [(0, .ref 0), (1, .int x1), (2, .int x2)], [.int (-1)], hh36) _
      refine xi_ireturn kc_120_20 mr_120 rfl ?_
      have zcm1 : ((-1) : Int32).toInt = (-1) := by decide
      exact kk (-1) hh36 (by omega) K37
set_option maxHeartbeats 4000000 in
theorem lp_123_0 {J : xe_J} {ov : List (List Int32)} (hJ : ∀ d mj as h, mj ≠ xe_loff → J d mj as h = none) (hov1 : ov[1]? = some [10, 0, 0, 0, 0, 0]) (hov2 : ov[2]? = some [99, 30, 50, 50, 1, 99999]) {d : Nat} {Q : Option Value → xe_H → Prop} {hb : xe_H} (kk : (∀ h' : xe_H, xk [(0, 9), (115, 1), (83, 0), (29, 0), (31, 0), (33, 0), (35, 0), (37, 0), (39, 0), (41, 0), (43, 0), (45, 0), (47, 0), (49, 0), (51, 0), (125, 0), (66, 8), (115, 18), (71, 0), (132, 0)] hb h' → Q none h')) : ∀ m : Nat, (∀ (x1 : Int32) (h : xe_H), (0 ≤ x1.toInt ∧ x1.toInt ≤ 20) → xk [(0, 9), (115, 1), (83, 0), (29, 0), (31, 0), (33, 0), (35, 0), (37, 0), (39, 0), (41, 0), (43, 0), (45, 0), (47, 0), (49, 0), (51, 0), (125, 0), (66, 8), (115, 18), (71, 0), (132, 0)] hb h → (-1) * x1.toInt + 20 < (m : Int) → xw J ov (d + 2) 123 (2, [(0, .ref 0), (1, .int x1)], [], h) Q) := by
  intro m
  induction m with
  | zero =>
    intro x1 h b1 K hm; exfalso; omega
  | succ m ih =>
    have i0 := ih
    intro x1 h b1 K hm
    refine xi_iload_n (pc' := 3) (x := x1) kc_123_2 rfl rfl ?_
    refine xi_aload_n (pc' := 4) (x := 0) kc_123_3 rfl rfl ?_
    refine xp_0 K.1 (fun u1 u2 bu1 bu2 A3 => ?_)
    refine xi_getfield (pc' := 7) (v := .int u1) kc_123_4 rfl rfl rfl A3 rfl ?_
    by_cases c4 : u1.toInt ≤ x1.toInt
    · refine xi_cmt (pc' := 63) kc_123_7 rfl (xc_ge_t (X := x1.toInt) (Y := u1.toInt) rfl rfl (by omega)) ?_
      refine xi_return kc_123_63 mr_123 ?_
      exact kk h K
    · refine xi_cmf (pc' := 10) kc_123_7 rfl (xc_ge_f (X := x1.toInt) (Y := u1.toInt) rfl rfl (by omega)) ?_
      refine xi_iload_n (pc' := 11) (x := x1) kc_123_10 rfl rfl ?_
      refine xi_bipush (pc' := 13) (v := 20) kc_123_11 rfl rfl ?_
      refine xi_cmf (pc' := 16) kc_123_13 rfl (xc_ge_f (X := x1.toInt) (Y := 20) rfl (by decide) (by omega)) ?_
      refine xi_aload_n (pc' := 17) (x := 0) kc_123_16 rfl rfl ?_
      refine xi_getfield (pc' := 20) (v := .ref 93) kc_123_17 rfl rfl rfl A3 rfl ?_
      refine xi_iload_n (pc' := 21) (x := x1) kc_123_20 rfl rfl ?_
      have A5 := xk_ex K.1 xD_93
      obtain ⟨pt6, ept6, mpt6⟩ := xR_93 (i := x1) (by omega) (by omega)
      refine xj_aaload (pc' := 22) (b := pt6) kc_123_21 rfl A5 rfl (xi_in (n := 20) (by omega) (by omega)) ept6 ?_
      refine xi_astore_n (pc' := 23) (lv' := [(2, .ref pt6), (0, .ref 0), (1, .int x1)]) kc_123_22 rfl rfl (xm_lt ml_123 rfl) ?_
      refine xi_aload_n (pc' := 24) (x := pt6) kc_123_23 rfl rfl ?_
      obtain ⟨u7, u8, u9, u10, u11, u12, bu7, bu8, bu9, bu10, bu11, bu12, A13⟩ := xg_trial K.1 mpt6
      refine xi_getfield (pc' := 27) (v := .int u10) kc_123_24 rfl rfl rfl A13 rfl ?_
      refine xi_aload_n (pc' := 28) (x := 0) kc_123_27 rfl rfl ?_
      refine xi_getfield (pc' := 31) (v := .int u2) kc_123_28 rfl rfl rfl A3 rfl ?_
      by_cases c14 : u10.toInt = u2.toInt
      · refine xi_cmf (pc' := 34) kc_123_31 rfl (xc_ne_f (X := u10.toInt) (Y := u2.toInt) rfl rfl (by omega)) ?_
        refine xi_aload_n (pc' := 35) (x := pt6) kc_123_34 rfl rfl ?_
        refine xi_aload_n (pc' := 36) (x := 0) kc_123_35 rfl rfl ?_
        refine xi_getfield (pc' := 39) (v := .ref 1) kc_123_36 rfl rfl rfl A3 rfl ?_
        refine xi_aload_n (pc' := 40) (x := pt6) kc_123_39 rfl rfl ?_
        refine xi_getfield (pc' := 43) (v := .int u7) kc_123_40 rfl rfl rfl A13 rfl ?_
        refine xi_aload_n (pc' := 44) (x := pt6) kc_123_43 rfl rfl ?_
        refine xi_getfield (pc' := 47) (v := .int u8) kc_123_44 rfl rfl rfl A13 rfl ?_
        refine xi_aload_n (pc' := 48) (x := pt6) kc_123_47 rfl rfl ?_
        refine xi_getfield (pc' := 51) (v := .int u9) kc_123_48 rfl rfl rfl A13 rfl ?_
        refine xp_1 K.1 (fun u15 u16 bu15 bu16 A17 => ?_)
        refine xi_virtual (mj := 92) (as := [.int u7, .int u8, .int u9]) (st1 := [.ref pt6]) (lv0 := [(0, .ref 1), (1, .int u7), (2, .int u8), (3, .int u9)]) kc_123_51 rfl rfl rfl rfl rfl A17 (Nat.le_of_ble_eq_true rfl) (hJ _ _ _ _ (by decide)) (xm_le ml_92 rfl) rfl ?_
        refine xi_iload_n (pc' := 1) (x := u7) kc_92_0 rfl rfl ?_
        refine xi_static (mj := 89) (as := [.int u7]) (st1 := []) (lv0 := [(0, .int u7)]) kc_92_1 rfl rfl (Nat.le_of_ble_eq_true rfl) rfl rfl (Nat.le_of_ble_eq_true rfl) (hJ _ _ _ _ (by decide)) (xm_le ml_89 rfl) rfl ?_
        refine xi_iload_n (pc' := 1) (x := u7) kc_89_0 rfl rfl ?_
        by_cases c18 : u7.toInt < 0
        · refine xi_ift (pc' := 14) kc_89_1 rfl (xc_lt_t (X := u7.toInt) (Y := 0) rfl (by decide) (by omega)) ?_
          refine xi_iconst (pc' := 15) (v := 0) kc_89_14 rfl rfl ?_
          refine xi_ireturn kc_89_15 mr_89 rfl ?_
          show xw J ov (d + 1) 92 (4, [(0, .ref 1), (1, .int u7), (2, .int u8), (3, .int u9)], [.int 0], h) _
          refine xi_ift (pc' := 21) kc_92_4 rfl rfl ?_
          refine xi_iconst (pc' := 22) (v := 0) kc_92_21 rfl rfl ?_
          refine xi_ireturn kc_92_22 mr_92 rfl ?_
          show xw J ov (d + 2) 123 (54, [(2, .ref pt6), (0, .ref 0), (1, .int x1)], [.int 0, .ref pt6], h) _
          refine xi_putfield (pc' := 57) (fs' := [.int u7, .int u8, .int u9, .int u10, .int u11, .int 0]) kc_123_54 rfl rfl rfl A13 rfl rfl rfl (Nat.le_of_ble_eq_true rfl) rfl (fun hh20 eh19 => ?_)
          obtain ⟨ds21, Dds21, dds21_0, dds21_1, dds21_2, dds21_3, dds21_4, dds21_5⟩ := xGo_trial mpt6
          have K22 := xk_pf (k := 5) (v := 0) K (xk_gf mpt6 rfl) Dds21 A13 dds21_5 (by first | omega | decide) (by first | omega | decide) eh19 rfl
          refine xcps2 (α := Int32) (x1 + 1) (fun v23 ev23 => ?_)
          have zv23 : v23.toInt = (x1.toInt + 1) := by rw [← ev23]; exact (xz_add (X := x1.toInt) (Y := 1) rfl (by decide) (by omega) (by omega)).trans (by omega)
          refine xi_iinc (pc' := 60) (x := x1) (v := v23) (lv' := [(1, .int v23), (2, .ref pt6), (0, .ref 0)]) kc_123_57 rfl rfl ev23 rfl (xm_lt ml_123 rfl) ?_
          refine xi_goto (pc' := 2) kc_123_60 rfl ?_
          refine xw_lv (b := [(0, .ref 0), (1, .int v23)]) (lvS_cons (lvS_cons (lvS_nil (show ([1, 2, 0] : List Nat).Nodup by decide)) rfl) rfl) ?_
          exact i0 v23 hh20 (by omega) K22 (by omega)
        · refine xi_iff (pc' := 4) kc_89_1 rfl (xc_lt_f (X := u7.toInt) (Y := 0) rfl (by decide) (by omega)) ?_
          refine xi_iload_n (pc' := 5) (x := u7) kc_89_4 rfl rfl ?_
          refine xi_bipush (pc' := 7) (v := 6) kc_89_5 rfl rfl ?_
          by_cases c24 : 6 ≤ u7.toInt
          · refine xi_cmt (pc' := 14) kc_89_7 rfl (xc_ge_t (X := u7.toInt) (Y := 6) rfl (by decide) (by omega)) ?_
            refine xi_iconst (pc' := 15) (v := 0) kc_89_14 rfl rfl ?_
            refine xi_ireturn kc_89_15 mr_89 rfl ?_
            show xw J ov (d + 1) 92 (4, [(0, .ref 1), (1, .int u7), (2, .int u8), (3, .int u9)], [.int 0], h) _
            refine xi_ift (pc' := 21) kc_92_4 rfl rfl ?_
            refine xi_iconst (pc' := 22) (v := 0) kc_92_21 rfl rfl ?_
            refine xi_ireturn kc_92_22 mr_92 rfl ?_
            show xw J ov (d + 2) 123 (54, [(2, .ref pt6), (0, .ref 0), (1, .int x1)], [.int 0, .ref pt6], h) _
            refine xi_putfield (pc' := 57) (fs' := [.int u7, .int u8, .int u9, .int u10, .int u11, .int 0]) kc_123_54 rfl rfl rfl A13 rfl rfl rfl (Nat.le_of_ble_eq_true rfl) rfl (fun hh26 eh25 => ?_)
            obtain ⟨ds27, Dds27, dds27_0, dds27_1, dds27_2, dds27_3, dds27_4, dds27_5⟩ := xGo_trial mpt6
            have K28 := xk_pf (k := 5) (v := 0) K (xk_gf mpt6 rfl) Dds27 A13 dds27_5 (by first | omega | decide) (by first | omega | decide) eh25 rfl
            refine xcps2 (α := Int32) (x1 + 1) (fun v29 ev29 => ?_)
            have zv29 : v29.toInt = (x1.toInt + 1) := by rw [← ev29]; exact (xz_add (X := x1.toInt) (Y := 1) rfl (by decide) (by omega) (by omega)).trans (by omega)
            refine xi_iinc (pc' := 60) (x := x1) (v := v29) (lv' := [(1, .int v29), (2, .ref pt6), (0, .ref 0)]) kc_123_57 rfl rfl ev29 rfl (xm_lt ml_123 rfl) ?_
            refine xi_goto (pc' := 2) kc_123_60 rfl ?_
            refine xw_lv (b := [(0, .ref 0), (1, .int v29)]) (lvS_cons (lvS_cons (lvS_nil (show ([1, 2, 0] : List Nat).Nodup by decide)) rfl) rfl) ?_
            exact i0 v29 hh26 (by omega) K28 (by omega)
          · refine xi_cmf (pc' := 10) kc_89_7 rfl (xc_ge_f (X := u7.toInt) (Y := 6) rfl (by decide) (by omega)) ?_
            refine xi_iconst (pc' := 11) (v := 1) kc_89_10 rfl rfl ?_
            refine xi_goto (pc' := 15) kc_89_11 rfl ?_
            refine xi_ireturn kc_89_15 mr_89 rfl ?_
            show xw J ov (d + 1) 92 (4, [(0, .ref 1), (1, .int u7), (2, .int u8), (3, .int u9)], [.int 1], h) _
            refine xi_iff (pc' := 7) kc_92_4 rfl rfl ?_
            refine xi_aload_n (pc' := 8) (x := 1) kc_92_7 rfl rfl ?_
            refine xi_getfield (pc' := 11) (v := .ref 2) kc_92_8 rfl rfl rfl A17 rfl ?_
            refine xi_iload_n (pc' := 12) (x := u7) kc_92_11 rfl rfl ?_
            have A30 := xk_ex K.1 xD_2
            obtain ⟨pt31, ept31, mpt31⟩ := xR_2 (i := u7) (by omega) (by omega)
            refine xj_aaload (pc' := 13) (b := pt31) kc_92_12 rfl A30 rfl (xi_in (n := 6) (by omega) (by omega)) ept31 ?_
            refine xi_iload_n (pc' := 14) (x := u8) kc_92_13 rfl rfl ?_
            refine xi_iload_n (pc' := 15) (x := u9) kc_92_14 rfl rfl ?_
            obtain ⟨pt32, pt33, mpt32, mpt33, A34⟩ := xg_room K.1 mpt31
            refine xi_virtual (mj := 93) (as := [.int u8, .int u9]) (st1 := []) (lv0 := [(0, .ref pt31), (1, .int u8), (2, .int u9)]) kc_92_15 rfl rfl rfl rfl rfl A34 (Nat.le_of_ble_eq_true rfl) (hJ _ _ _ _ (by decide)) (xm_le ml_93 rfl) rfl ?_
            refine xi_iload_n (pc' := 1) (x := u8) kc_93_0 rfl rfl ?_
            by_cases c35 : u8.toInt < 0
            · refine xi_ift (pc' := 9) kc_93_1 rfl (xc_lt_t (X := u8.toInt) (Y := 0) rfl (by decide) (by omega)) ?_
              refine xi_iconst (pc' := 10) (v := 0) kc_93_9 rfl rfl ?_
              refine xi_ireturn kc_93_10 mr_93 rfl ?_
              show xw J ov (d + 1) 92 (18, [(0, .ref 1), (1, .int u7), (2, .int u8), (3, .int u9)], [.int 0], h) _
              refine xi_goto (pc' := 22) kc_92_18 rfl ?_
              refine xi_ireturn kc_92_22 mr_92 rfl ?_
              show xw J ov (d + 2) 123 (54, [(2, .ref pt6), (0, .ref 0), (1, .int x1)], [.int 0, .ref pt6], h) _
              refine xi_putfield (pc' := 57) (fs' := [.int u7, .int u8, .int u9, .int u10, .int u11, .int 0]) kc_123_54 rfl rfl rfl A13 rfl rfl rfl (Nat.le_of_ble_eq_true rfl) rfl (fun hh37 eh36 => ?_)
              obtain ⟨ds38, Dds38, dds38_0, dds38_1, dds38_2, dds38_3, dds38_4, dds38_5⟩ := xGo_trial mpt6
              have K39 := xk_pf (k := 5) (v := 0) K (xk_gf mpt6 rfl) Dds38 A13 dds38_5 (by first | omega | decide) (by first | omega | decide) eh36 rfl
              refine xcps2 (α := Int32) (x1 + 1) (fun v40 ev40 => ?_)
              have zv40 : v40.toInt = (x1.toInt + 1) := by rw [← ev40]; exact (xz_add (X := x1.toInt) (Y := 1) rfl (by decide) (by omega) (by omega)).trans (by omega)
              refine xi_iinc (pc' := 60) (x := x1) (v := v40) (lv' := [(1, .int v40), (2, .ref pt6), (0, .ref 0)]) kc_123_57 rfl rfl ev40 rfl (xm_lt ml_123 rfl) ?_
              refine xi_goto (pc' := 2) kc_123_60 rfl ?_
              refine xw_lv (b := [(0, .ref 0), (1, .int v40)]) (lvS_cons (lvS_cons (lvS_nil (show ([1, 2, 0] : List Nat).Nodup by decide)) rfl) rfl) ?_
              exact i0 v40 hh37 (by omega) K39 (by omega)
            · refine xi_iff (pc' := 4) kc_93_1 rfl (xc_lt_f (X := u8.toInt) (Y := 0) rfl (by decide) (by omega)) ?_
              refine xi_iload_n (pc' := 5) (x := u8) kc_93_4 rfl rfl ?_
              refine xi_iconst (pc' := 6) (v := 5) kc_93_5 rfl rfl ?_
              by_cases c41 : u8.toInt < 5
              · refine xi_cmt (pc' := 11) kc_93_6 rfl (xc_lt_t (X := u8.toInt) (Y := 5) rfl (by decide) (by omega)) ?_
                refine xi_aload_n (pc' := 12) (x := pt31) kc_93_11 rfl rfl ?_
                refine xi_getfield (pc' := 15) (v := .ref pt32) kc_93_12 rfl rfl rfl A34 rfl ?_
                refine xi_iload_n (pc' := 16) (x := u8) kc_93_15 rfl rfl ?_
                refine xcps4 (xk_arr K.1 (xGD_room0 mpt32)) (fun y42 A42 hy42 ry42 => ?_)
                refine xcps4 (xj_get hy42 ry42 (i := u8) (by omega) (by omega)) (fun v43 ev43 bv43 dv43 => ?_)
                refine xi_iaload (pc' := 17) (v := v43) kc_93_16 rfl A42 (xk_lo mpt32 rfl) rfl (xi_in (by omega) (by rw [hy42]; omega)) ev43 ?_
                refine xi_istore_n (pc' := 18) (lv' := [(3, .int v43), (0, .ref pt31), (1, .int u8), (2, .int u9)]) kc_93_17 rfl rfl (xm_lt ml_93 rfl) ?_
                refine xi_aload_n (pc' := 19) (x := pt31) kc_93_18 rfl rfl ?_
                refine xi_getfield (pc' := 22) (v := .ref pt32) kc_93_19 rfl rfl rfl A34 rfl ?_
                refine xi_iload_n (pc' := 23) (x := u8) kc_93_22 rfl rfl ?_
                refine xi_iload_n (pc' := 24) (x := u9) kc_93_23 rfl rfl ?_
                refine xcps4 (xj_set (v := u9) hy42 ry42 u8 (by first | omega | decide) (by first | omega | decide)) (fun y44 s44 hy44 ry44 => ?_)
                refine xi_iastore (pc' := 25) (x' := y44) kc_93_24 rfl A42 rfl (xi_in (by omega) (by rw [hy42]; omega)) s44 (fun hh44 eh44 => ?_)
                have K45 := xk_pa K (xk_ga mpt32 rfl) (xGD_room0 mpt32) hy44 ry44 eh44
                refine xi_iload_n (pc' := 26) (x := v43) kc_93_25 rfl rfl ?_
                refine xi_ireturn kc_93_26 mr_93 rfl ?_
                show xw J ov (d + 1) 92 (18, [(0, .ref 1), (1, .int u7), (2, .int u8), (3, .int u9)], [.int v43], hh44) _
                refine xi_goto (pc' := 22) kc_92_18 rfl ?_
                refine xi_ireturn kc_92_22 mr_92 rfl ?_
                show xw J ov (d + 2) 123 (54, [(2, .ref pt6), (0, .ref 0), (1, .int x1)], [.int v43, .ref pt6], hh44) _
                have A46 := ((eh44.2.1 pt6 (xk_nn mpt6 mpt32 rfl)).trans A13)
                refine xi_putfield (pc' := 57) (fs' := [.int u7, .int u8, .int u9, .int u10, .int u11, .int v43]) kc_123_54 rfl rfl rfl A46 rfl rfl rfl (Nat.le_of_ble_eq_true rfl) rfl (fun hh48 eh47 => ?_)
                obtain ⟨ds49, Dds49, dds49_0, dds49_1, dds49_2, dds49_3, dds49_4, dds49_5⟩ := xGo_trial mpt6
                have K50 := xk_pf (k := 5) (v := v43) K45 (xk_gf mpt6 rfl) Dds49 A46 dds49_5 (by first | omega | decide) (by first | omega | decide) eh47 rfl
                refine xcps2 (α := Int32) (x1 + 1) (fun v51 ev51 => ?_)
                have zv51 : v51.toInt = (x1.toInt + 1) := by rw [← ev51]; exact (xz_add (X := x1.toInt) (Y := 1) rfl (by decide) (by omega) (by omega)).trans (by omega)
                refine xi_iinc (pc' := 60) (x := x1) (v := v51) (lv' := [(1, .int v51), (2, .ref pt6), (0, .ref 0)]) kc_123_57 rfl rfl ev51 rfl (xm_lt ml_123 rfl) ?_
                refine xi_goto (pc' := 2) kc_123_60 rfl ?_
                refine xw_lv (b := [(0, .ref 0), (1, .int v51)]) (lvS_cons (lvS_cons (lvS_nil (show ([1, 2, 0] : List Nat).Nodup by decide)) rfl) rfl) ?_
                exact i0 v51 hh48 (by omega) K50 (by omega)
              · refine xi_cmf (pc' := 9) kc_93_6 rfl (xc_lt_f (X := u8.toInt) (Y := 5) rfl (by decide) (by omega)) ?_
                refine xi_iconst (pc' := 10) (v := 0) kc_93_9 rfl rfl ?_
                refine xi_ireturn kc_93_10 mr_93 rfl ?_
                show xw J ov (d + 1) 92 (18, [(0, .ref 1), (1, .int u7), (2, .int u8), (3, .int u9)], [.int 0], h) _
                refine xi_goto (pc' := 22) kc_92_18 rfl ?_
                refine xi_ireturn kc_92_22 mr_92 rfl ?_
                show xw J ov (d + 2) 123 (54, [(2, .ref pt6), (0, .ref 0), (1, .int x1)], [.int 0, .ref pt6], h) _
                refine xi_putfield (pc' := 57) (fs' := [.int u7, .int u8, .int u9, .int u10, .int u11, .int 0]) kc_123_54 rfl rfl rfl A13 rfl rfl rfl (Nat.le_of_ble_eq_true rfl) rfl (fun hh53 eh52 => ?_)
                obtain ⟨ds54, Dds54, dds54_0, dds54_1, dds54_2, dds54_3, dds54_4, dds54_5⟩ := xGo_trial mpt6
                have K55 := xk_pf (k := 5) (v := 0) K (xk_gf mpt6 rfl) Dds54 A13 dds54_5 (by first | omega | decide) (by first | omega | decide) eh52 rfl
                refine xcps2 (α := Int32) (x1 + 1) (fun v56 ev56 => ?_)
                have zv56 : v56.toInt = (x1.toInt + 1) := by rw [← ev56]; exact (xz_add (X := x1.toInt) (Y := 1) rfl (by decide) (by omega) (by omega)).trans (by omega)
                refine xi_iinc (pc' := 60) (x := x1) (v := v56) (lv' := [(1, .int v56), (2, .ref pt6), (0, .ref 0)]) kc_123_57 rfl rfl ev56 rfl (xm_lt ml_123 rfl) ?_
                refine xi_goto (pc' := 2) kc_123_60 rfl ?_
                refine xw_lv (b := [(0, .ref 0), (1, .int v56)]) (lvS_cons (lvS_cons (lvS_nil (show ([1, 2, 0] : List Nat).Nodup by decide)) rfl) rfl) ?_
                exact i0 v56 hh53 (by omega) K55 (by omega)
      · refine xi_cmt (pc' := 57) kc_123_31 rfl (xc_ne_t (X := u10.toInt) (Y := u2.toInt) rfl rfl (by omega)) ?_
        refine xcps2 (α := Int32) (x1 + 1) (fun v57 ev57 => ?_)
        have zv57 : v57.toInt = (x1.toInt + 1) := by rw [← ev57]; exact (xz_add (X := x1.toInt) (Y := 1) rfl (by decide) (by omega) (by omega)).trans (by omega)
        refine xi_iinc (pc' := 60) (x := x1) (v := v57) (lv' := [(1, .int v57), (2, .ref pt6), (0, .ref 0)]) kc_123_57 rfl rfl ev57 rfl (xm_lt ml_123 rfl) ?_
        refine xi_goto (pc' := 2) kc_123_60 rfl ?_
        refine xw_lv (b := [(0, .ref 0), (1, .int v57)]) (lvS_cons (lvS_cons (lvS_nil (show ([1, 2, 0] : List Nat).Nodup by decide)) rfl) rfl) ?_
        exact i0 v57 h (by omega) K (by omega)
set_option maxHeartbeats 4000000 in
theorem mt_123_0 {J : xe_J} {ov : List (List Int32)} (hJ : ∀ d mj as h, mj ≠ xe_loff → J d mj as h = none) (hov1 : ov[1]? = some [10, 0, 0, 0, 0, 0]) (hov2 : ov[2]? = some [99, 30, 50, 50, 1, 99999]) {d : Nat} {Q : Option Value → xe_H → Prop} {h : xe_H} (T : xt h) (kk : (∀ h' : xe_H, xk [(0, 9), (115, 1), (83, 0), (29, 0), (31, 0), (33, 0), (35, 0), (37, 0), (39, 0), (41, 0), (43, 0), (45, 0), (47, 0), (49, 0), (51, 0), (125, 0), (66, 8), (115, 18), (71, 0), (132, 0)] h h' → Q none h')) : xw J ov (d + 2) 123 (0, [(0, .ref 0)], [], h) Q := by
  have K : xk [(0, 9), (115, 1), (83, 0), (29, 0), (31, 0), (33, 0), (35, 0), (37, 0), (39, 0), (41, 0), (43, 0), (45, 0), (47, 0), (49, 0), (51, 0), (125, 0), (66, 8), (115, 18), (71, 0), (132, 0)] h h := xk_re T
  refine xi_iconst (pc' := 1) (v := 0) kc_123_0 rfl rfl ?_
  refine xi_istore_n (pc' := 2) (lv' := [(1, .int 0), (0, .ref 0)]) kc_123_1 rfl rfl (xm_lt ml_123 rfl) ?_
  have zc0 : (0 : Int32).toInt = 0 := by decide
  refine xw_lv (b := [(0, .ref 0), (1, .int 0)]) (lvS_cons (lvS_cons (lvS_nil (show ([1, 0] : List Nat).Nodup by decide)) rfl) rfl) ?_
  exact (lp_123_0 hJ hov1 hov2 (d := d) (hb := h) (fun h9 K9 => kk h9 (xk_tr K K9 rfl)) 21) 0 h (by omega) (xk_re K.1) (by omega)
set_option maxHeartbeats 4000000 in
theorem mt_126_0 {J : xe_J} {ov : List (List Int32)} (hJ : ∀ d mj as h, mj ≠ xe_loff → J d mj as h = none) (hov1 : ov[1]? = some [10, 0, 0, 0, 0, 0]) (hov2 : ov[2]? = some [99, 30, 50, 50, 1, 99999]) {d : Nat} {Q : Option Value → xe_H → Prop} {h : xe_H} {x2 : Int32} {x3 : Int32} (T : xt h) (b2 : (0 ≤ x2.toInt ∧ x2.toInt ≤ 9)) (b3 : (0 ≤ x3.toInt ∧ x3.toInt ≤ 600)) (kk : (∀ (r : Int32) (h' : xe_H), (0 ≤ r.toInt ∧ r.toInt ≤ 1) → xk [(0, 9), (115, 1), (83, 0), (29, 0), (31, 0), (33, 0), (35, 0), (37, 0), (39, 0), (41, 0), (43, 0), (45, 0), (47, 0), (49, 0), (51, 0), (125, 0), (66, 8), (115, 18), (71, 0), (132, 0)] h h' → Q (some (.int r)) h')) : xw J ov (d + 1) 126 (0, [(0, .ref 1), (1, .ref 63), (2, .int x2), (3, .int x3)], [], h) Q := by
  have K : xk [(0, 9), (115, 1), (83, 0), (29, 0), (31, 0), (33, 0), (35, 0), (37, 0), (39, 0), (41, 0), (43, 0), (45, 0), (47, 0), (49, 0), (51, 0), (125, 0), (66, 8), (115, 18), (71, 0), (132, 0)] h h := xk_re T
  refine xi_aload_n (pc' := 1) (x := 63) kc_126_0 rfl rfl ?_
  refine xp_63 K.1 (fun u1 u2 bu1 bu2 A3 => ?_)
  refine xi_getfield (pc' := 4) (v := .int u1) kc_126_1 rfl rfl rfl A3 rfl ?_
  refine xi_iload_n (pc' := 5) (x := x2) kc_126_4 rfl rfl ?_
  refine xcps2 (α := Int32) ((u1 : Int32) >>> (x2 &&& 31)) (fun v4 ev4 => ?_)
  have rv4 := xc_rng v4
  refine xi_ishr (pc' := 6) (v := v4) kc_126_5 rfl ev4 ?_
  refine xi_iconst (pc' := 7) (v := 1) kc_126_6 rfl rfl ?_
  refine xcps2 (α := Int32) ((v4 : Int32) &&& 1) (fun v5 ev5 => ?_)
  have rv5 := xc_rng v5
  refine xi_iand (pc' := 8) (v := v5) kc_126_7 rfl ev5 ?_
  by_cases c6 : v5.toInt = 0
  · refine xi_ift (pc' := 28) kc_126_8 rfl (xc_eq_t (X := v5.toInt) (Y := 0) rfl (by decide) (by omega)) ?_
    refine xi_iconst (pc' := 29) (v := 0) kc_126_28 rfl rfl ?_
    refine xi_ireturn kc_126_29 mr_126 rfl ?_
    have zc0 : (0 : Int32).toInt = 0 := by decide
    exact kk 0 h (by omega) K
  · refine xi_iff (pc' := 11) kc_126_8 rfl (xc_eq_f (X := v5.toInt) (Y := 0) rfl (by decide) (by omega)) ?_
    refine xi_iload_n (pc' := 12) (x := x3) kc_126_11 rfl rfl ?_
    refine xi_aload_n (pc' := 13) (x := 1) kc_126_12 rfl rfl ?_
    refine xp_1 K.1 (fun u7 u8 bu7 bu8 A9 => ?_)
    refine xi_getfield (pc' := 16) (v := .ref 4) kc_126_13 rfl rfl rfl A9 rfl ?_
    refine xi_iload_n (pc' := 17) (x := x2) kc_126_16 rfl rfl ?_
    have A10 := xk_ex K.1 xD_4
    obtain ⟨pt11, ept11, mpt11⟩ := xR_4 (i := x2) (by omega) (by omega)
    refine xj_aaload (pc' := 18) (b := pt11) kc_126_17 rfl A10 rfl (xi_in (n := 10) (by omega) (by omega)) ept11 ?_
    obtain ⟨u12, u13, u14, u15, bu12, bu13, bu14, bu15, A16⟩ := xg_cause K.1 mpt11
    refine xi_getfield (pc' := 21) (v := .int u15) kc_126_18 rfl rfl rfl A16 rfl ?_
    by_cases c17 : x3.toInt < u15.toInt
    · refine xi_cmt (pc' := 28) kc_126_21 rfl (xc_lt_t (X := x3.toInt) (Y := u15.toInt) rfl rfl (by omega)) ?_
      refine xi_iconst (pc' := 29) (v := 0) kc_126_28 rfl rfl ?_
      refine xi_ireturn kc_126_29 mr_126 rfl ?_
      have zc0 : (0 : Int32).toInt = 0 := by decide
      exact kk 0 h (by omega) K
    · refine xi_cmf (pc' := 24) kc_126_21 rfl (xc_lt_f (X := x3.toInt) (Y := u15.toInt) rfl rfl (by omega)) ?_
      refine xi_iconst (pc' := 25) (v := 1) kc_126_24 rfl rfl ?_
      refine xi_goto (pc' := 29) kc_126_25 rfl ?_
      refine xi_ireturn kc_126_29 mr_126 rfl ?_
      have zc1 : (1 : Int32).toInt = 1 := by decide
      exact kk 1 h (by omega) K
set_option maxHeartbeats 4000000 in
theorem mt_127_0 {J : xe_J} {ov : List (List Int32)} (hJ : ∀ d mj as h, mj ≠ xe_loff → J d mj as h = none) (hov1 : ov[1]? = some [10, 0, 0, 0, 0, 0]) (hov2 : ov[2]? = some [99, 30, 50, 50, 1, 99999]) {d : Nat} {Q : Option Value → xe_H → Prop} {h : xe_H} {x1 : Int32} {x2 : Int32} (T : xt h) (kk : (∀ h' : xe_H, xk [(0, 9), (115, 1), (83, 0), (29, 0), (31, 0), (33, 0), (35, 0), (37, 0), (39, 0), (41, 0), (43, 0), (45, 0), (47, 0), (49, 0), (51, 0), (125, 0), (66, 8), (115, 18), (71, 0), (132, 0)] h h' → Q none h')) : xw J ov (d + 1) 127 (0, [(0, .ref 63), (1, .int x1), (2, .int x2)], [], h) Q := by
  have K : xk [(0, 9), (115, 1), (83, 0), (29, 0), (31, 0), (33, 0), (35, 0), (37, 0), (39, 0), (41, 0), (43, 0), (45, 0), (47, 0), (49, 0), (51, 0), (125, 0), (66, 8), (115, 18), (71, 0), (132, 0)] h h := xk_re T
  have rx1 := xc_rng x1
  have rx2 := xc_rng x2
  refine xi_iload_n (pc' := 1) (x := x1) kc_127_0 rfl rfl ?_
  by_cases c1 : x1.toInt < 0
  · refine xi_ift (pc' := 40) kc_127_1 rfl (xc_lt_t (X := x1.toInt) (Y := 0) rfl (by decide) (by omega)) ?_
    refine xi_return kc_127_40 mr_127 ?_
    exact kk h K
  · refine xi_iff (pc' := 4) kc_127_1 rfl (xc_lt_f (X := x1.toInt) (Y := 0) rfl (by decide) (by omega)) ?_
    refine xi_iload_n (pc' := 5) (x := x1) kc_127_4 rfl rfl ?_
    refine xi_aload_n (pc' := 6) (x := 63) kc_127_5 rfl rfl ?_
    refine xp_63 K.1 (fun u2 u3 bu2 bu3 A4 => ?_)
    refine xi_getfield (pc' := 9) (v := .ref 64) kc_127_6 rfl rfl rfl A4 rfl ?_
    refine xcps4 (xk_arr K.1 xD_64) (fun y5 A5 hy5 ry5 => ?_)
    refine xi_arraylength (pc' := 10) (n := 6) (v := 6) kc_127_9 rfl (xl_lenI (by decide) (by decide) A5 hy5) rfl ?_
    by_cases c6 : 6 ≤ x1.toInt
    · refine xi_cmt (pc' := 40) kc_127_10 rfl (xc_ge_t (X := x1.toInt) (Y := 6) rfl (by decide) (by omega)) ?_
      refine xi_return kc_127_40 mr_127 ?_
      exact kk h K
    · refine xi_cmf (pc' := 13) kc_127_10 rfl (xc_ge_f (X := x1.toInt) (Y := 6) rfl (by decide) (by omega)) ?_
      refine xi_aload_n (pc' := 14) (x := 63) kc_127_13 rfl rfl ?_
      refine xi_getfield (pc' := 17) (v := .ref 64) kc_127_14 rfl rfl rfl A4 rfl ?_
      refine xi_iload_n (pc' := 18) (x := x1) kc_127_17 rfl rfl ?_
      refine xcps4 (xj_get hy5 ry5 (i := x1) (by omega) (by omega)) (fun v7 ev7 bv7 dv7 => ?_)
      refine xi_iaload (pc' := 19) (v := v7) kc_127_18 rfl A5 (by decide) rfl (xi_in (by omega) (by rw [hy5]; omega)) ev7 ?_
      refine xi_iload_n (pc' := 20) (x := x2) kc_127_19 rfl rfl ?_
      refine xcps2 (α := Int32) ((v7 : Int32) + x2) (fun v8 ev8 => ?_)
      have rv8 := xc_rng v8
      refine xi_iadd (pc' := 21) (v := v8) kc_127_20 rfl ev8 ?_
      refine xi_istore_n (pc' := 22) (lv' := [(3, .int v8), (0, .ref 63), (1, .int x1), (2, .int x2)]) kc_127_21 rfl rfl (xm_lt ml_127 rfl) ?_
      refine xi_aload_n (pc' := 23) (x := 63) kc_127_22 rfl rfl ?_
      refine xi_getfield (pc' := 26) (v := .ref 64) kc_127_23 rfl rfl rfl A4 rfl ?_
      refine xi_iload_n (pc' := 27) (x := x1) kc_127_26 rfl rfl ?_
      refine xi_iload_n (pc' := 28) (x := v8) kc_127_27 rfl rfl ?_
      refine xi_ldc (pc' := 30) (v := 99999) kc_127_28 rfl rfl ?_
      by_cases c9 : v8.toInt ≤ 99999
      · refine xi_cmt (pc' := 38) kc_127_30 rfl (xc_le_t (X := v8.toInt) (Y := 99999) rfl (by decide) (by omega)) ?_
        refine xi_iload_n (pc' := 39) (x := v8) kc_127_38 rfl rfl ?_
        refine xcps4 (xj_set (v := v8) hy5 ry5 x1 (by first | omega | decide) (by first | omega | decide)) (fun y10 s10 hy10 ry10 => ?_)
        refine xi_iastore (pc' := 40) (x' := y10) kc_127_39 rfl A5 rfl (xi_in (by omega) (by rw [hy5]; omega)) s10 (fun hh10 eh10 => ?_)
        have K11 := xk_pa K (xk_wa rfl) xD_64 hy10 ry10 eh10
        refine xi_return kc_127_40 mr_127 ?_
        exact kk hh10 K11
      · refine xi_cmf (pc' := 33) kc_127_30 rfl (xc_le_f (X := v8.toInt) (Y := 99999) rfl (by decide) (by omega)) ?_
        refine xi_ldc (pc' := 35) (v := 99999) kc_127_33 rfl rfl ?_
        refine xi_goto (pc' := 39) kc_127_35 rfl ?_
        refine xcps4 (xj_set (v := 99999) hy5 ry5 x1 (by first | omega | decide) (by first | omega | decide)) (fun y12 s12 hy12 ry12 => ?_)
        refine xi_iastore (pc' := 40) (x' := y12) kc_127_39 rfl A5 rfl (xi_in (by omega) (by rw [hy5]; omega)) s12 (fun hh12 eh12 => ?_)
        have K13 := xk_pa K (xk_wa rfl) xD_64 hy12 ry12 eh12
        refine xi_return kc_127_40 mr_127 ?_
        exact kk hh12 K13
set_option maxHeartbeats 4000000 in
theorem lp_125_0 {J : xe_J} {ov : List (List Int32)} (hJ : ∀ d mj as h, mj ≠ xe_loff → J d mj as h = none) (hov1 : ov[1]? = some [10, 0, 0, 0, 0, 0]) (hov2 : ov[2]? = some [99, 30, 50, 50, 1, 99999]) {d : Nat} {Q : Option Value → xe_H → Prop} {hb : xe_H} (kk : (∀ h' : xe_H, xk [(0, 9), (115, 1), (83, 0), (29, 0), (31, 0), (33, 0), (35, 0), (37, 0), (39, 0), (41, 0), (43, 0), (45, 0), (47, 0), (49, 0), (51, 0), (125, 0), (66, 8), (115, 18), (71, 0), (132, 0)] hb h' → Q none h')) : ∀ m : Nat, (∀ (x2 : Int32) (x3 : Int32) (h : xe_H), (0 ≤ x2.toInt ∧ x2.toInt ≤ 600) → (0 ≤ x3.toInt ∧ x3.toInt ≤ 10) → xk [(0, 9), (115, 1), (83, 0), (29, 0), (31, 0), (33, 0), (35, 0), (37, 0), (39, 0), (41, 0), (43, 0), (45, 0), (47, 0), (49, 0), (51, 0), (125, 0), (66, 8), (115, 18), (71, 0), (132, 0)] hb h → (-1) * x3.toInt + 10 < (m : Int) → xw J ov (d + 2) 125 (2, [(0, .ref 1), (1, .ref 63), (2, .int x2), (3, .int x3)], [], h) Q) := by
  intro m
  induction m with
  | zero =>
    intro x2 x3 h b2 b3 K hm; exfalso; omega
  | succ m ih =>
    have i0 := ih
    intro x2 x3 h b2 b3 K hm
    refine xi_iload_n (pc' := 3) (x := x3) kc_125_2 rfl rfl ?_
    refine xi_aload_n (pc' := 4) (x := 1) kc_125_3 rfl rfl ?_
    refine xp_1 K.1 (fun u1 u2 bu1 bu2 A3 => ?_)
    refine xi_getfield (pc' := 7) (v := .int u1) kc_125_4 rfl rfl rfl A3 rfl ?_
    by_cases c4 : u1.toInt ≤ x3.toInt
    · refine xi_cmt (pc' := 67) kc_125_7 rfl (xc_ge_t (X := x3.toInt) (Y := u1.toInt) rfl rfl (by omega)) ?_
      refine xi_return kc_125_67 mr_125 ?_
      exact kk h K
    · refine xi_cmf (pc' := 10) kc_125_7 rfl (xc_ge_f (X := x3.toInt) (Y := u1.toInt) rfl rfl (by omega)) ?_
      refine xi_iload_n (pc' := 11) (x := x3) kc_125_10 rfl rfl ?_
      refine xi_bipush (pc' := 13) (v := 10) kc_125_11 rfl rfl ?_
      refine xi_cmf (pc' := 16) kc_125_13 rfl (xc_ge_f (X := x3.toInt) (Y := 10) rfl (by decide) (by omega)) ?_
      refine xi_aload_n (pc' := 17) (x := 1) kc_125_16 rfl rfl ?_
      refine xi_getfield (pc' := 20) (v := .ref 4) kc_125_17 rfl rfl rfl A3 rfl ?_
      refine xi_iload_n (pc' := 21) (x := x3) kc_125_20 rfl rfl ?_
      have A5 := xk_ex K.1 xD_4
      obtain ⟨pt6, ept6, mpt6⟩ := xR_4 (i := x3) (by omega) (by omega)
      refine xj_aaload (pc' := 22) (b := pt6) kc_125_21 rfl A5 rfl (xi_in (n := 10) (by omega) (by omega)) ept6 ?_
      obtain ⟨u7, u8, u9, u10, bu7, bu8, bu9, bu10, A11⟩ := xg_cause K.1 mpt6
      refine xi_getfield (pc' := 25) (v := .int u7) kc_125_22 rfl rfl rfl A11 rfl ?_
      refine xi_iconst (pc' := 26) (v := 3) kc_125_25 rfl rfl ?_
      by_cases c12 : u7.toInt = 3
      · refine xi_cmf (pc' := 29) kc_125_26 rfl (xc_ne_f (X := u7.toInt) (Y := 3) rfl (by decide) (by omega)) ?_
        refine xi_aload_n (pc' := 30) (x := 1) kc_125_29 rfl rfl ?_
        refine xi_aload_n (pc' := 31) (x := 63) kc_125_30 rfl rfl ?_
        refine xi_iload_n (pc' := 32) (x := x3) kc_125_31 rfl rfl ?_
        refine xi_iload_n (pc' := 33) (x := x2) kc_125_32 rfl rfl ?_
        refine xi_virtual (mj := 126) (as := [.ref 63, .int x3, .int x2]) (st1 := []) (lv0 := [(0, .ref 1), (1, .ref 63), (2, .int x3), (3, .int x2)]) kc_125_33 rfl rfl rfl rfl rfl A3 (Nat.le_of_ble_eq_true rfl) (hJ _ _ _ _ (by decide)) (xm_le ml_126 rfl) rfl ?_
        refine mt_126_0 hJ hov1 hov2 (d := d) (x2 := x3) (x3 := x2) K.1 (by first | omega | decide) (by first | omega | decide) (fun r13 hh14 br13 K15 => ?_)
        have K16 := xk_tr K K15 rfl
        show xw J ov (d + 2) 125 (36, [(0, .ref 1), (1, .ref 63), (2, .int x2), (3, .int x3)], [.int r13], hh14) _
        by_cases c17 : r13.toInt = 0
        · refine xi_ift (pc' := 61) kc_125_36 rfl (xc_eq_t (X := r13.toInt) (Y := 0) rfl (by decide) (by omega)) ?_
          refine xcps2 (α := Int32) (x3 + 1) (fun v18 ev18 => ?_)
          have zv18 : v18.toInt = (x3.toInt + 1) := by rw [← ev18]; exact (xz_add (X := x3.toInt) (Y := 1) rfl (by decide) (by omega) (by omega)).trans (by omega)
          refine xi_iinc (pc' := 64) (x := x3) (v := v18) (lv' := [(3, .int v18), (0, .ref 1), (1, .ref 63), (2, .int x2)]) kc_125_61 rfl rfl ev18 rfl (xm_lt ml_125 rfl) ?_
          refine xi_goto (pc' := 2) kc_125_64 rfl ?_
          refine xw_lv (b := [(0, .ref 1), (1, .ref 63), (2, .int x2), (3, .int v18)]) (lvS_cons (lvS_cons (lvS_cons (lvS_cons (lvS_nil (show ([3, 0, 1, 2] : List Nat).Nodup by decide)) rfl) rfl) rfl) rfl) ?_
          exact i0 x2 v18 hh14 (by omega) (by omega) K16 (by omega)
        · refine xi_iff (pc' := 39) kc_125_36 rfl (xc_eq_f (X := r13.toInt) (Y := 0) rfl (by decide) (by omega)) ?_
          refine xi_aload_n (pc' := 40) (x := 63) kc_125_39 rfl rfl ?_
          refine xi_aload_n (pc' := 41) (x := 1) kc_125_40 rfl rfl ?_
          refine xp_1 K16.1 (fun u19 u20 bu19 bu20 A21 => ?_)
          refine xi_getfield (pc' := 44) (v := .ref 4) kc_125_41 rfl rfl rfl A21 rfl ?_
          refine xi_iload_n (pc' := 45) (x := x3) kc_125_44 rfl rfl ?_
          have A22 := xk_ex K16.1 xD_4
          refine xj_aaload (pc' := 46) (b := pt6) kc_125_45 rfl A22 rfl (xi_in (n := 10) (by omega) (by omega)) ept6 ?_
          obtain ⟨u23, u24, u25, u26, bu23, bu24, bu25, bu26, A27⟩ := xg_cause K16.1 mpt6
          refine xi_getfield (pc' := 49) (v := .int u24) kc_125_46 rfl rfl rfl A27 rfl ?_
          refine xi_aload_n (pc' := 50) (x := 1) kc_125_49 rfl rfl ?_
          refine xi_getfield (pc' := 53) (v := .ref 4) kc_125_50 rfl rfl rfl A21 rfl ?_
          refine xi_iload_n (pc' := 54) (x := x3) kc_125_53 rfl rfl ?_
          refine xj_aaload (pc' := 55) (b := pt6) kc_125_54 rfl A22 rfl (xi_in (n := 10) (by omega) (by omega)) ept6 ?_
          refine xi_getfield (pc' := 58) (v := .int u25) kc_125_55 rfl rfl rfl A27 rfl ?_
          refine xp_63 K16.1 (fun u28 u29 bu28 bu29 A30 => ?_)
          refine xi_virtual (mj := 127) (as := [.int u24, .int u25]) (st1 := []) (lv0 := [(0, .ref 63), (1, .int u24), (2, .int u25)]) kc_125_58 rfl rfl rfl rfl rfl A30 (Nat.le_of_ble_eq_true rfl) (hJ _ _ _ _ (by decide)) (xm_le ml_127 rfl) rfl ?_
          refine mt_127_0 hJ hov1 hov2 (d := d) (x1 := u24) (x2 := u25) K16.1 (fun hh32 K33 => ?_)
          have K34 := xk_tr K16 K33 rfl
          show xw J ov (d + 2) 125 (61, [(0, .ref 1), (1, .ref 63), (2, .int x2), (3, .int x3)], [], hh32) _
          refine xcps2 (α := Int32) (x3 + 1) (fun v35 ev35 => ?_)
          have zv35 : v35.toInt = (x3.toInt + 1) := by rw [← ev35]; exact (xz_add (X := x3.toInt) (Y := 1) rfl (by decide) (by omega) (by omega)).trans (by omega)
          refine xi_iinc (pc' := 64) (x := x3) (v := v35) (lv' := [(3, .int v35), (0, .ref 1), (1, .ref 63), (2, .int x2)]) kc_125_61 rfl rfl ev35 rfl (xm_lt ml_125 rfl) ?_
          refine xi_goto (pc' := 2) kc_125_64 rfl ?_
          refine xw_lv (b := [(0, .ref 1), (1, .ref 63), (2, .int x2), (3, .int v35)]) (lvS_cons (lvS_cons (lvS_cons (lvS_cons (lvS_nil (show ([3, 0, 1, 2] : List Nat).Nodup by decide)) rfl) rfl) rfl) rfl) ?_
          exact i0 x2 v35 hh32 (by omega) (by omega) K34 (by omega)
      · refine xi_cmt (pc' := 61) kc_125_26 rfl (xc_ne_t (X := u7.toInt) (Y := 3) rfl (by decide) (by omega)) ?_
        refine xcps2 (α := Int32) (x3 + 1) (fun v36 ev36 => ?_)
        have zv36 : v36.toInt = (x3.toInt + 1) := by rw [← ev36]; exact (xz_add (X := x3.toInt) (Y := 1) rfl (by decide) (by omega) (by omega)).trans (by omega)
        refine xi_iinc (pc' := 64) (x := x3) (v := v36) (lv' := [(3, .int v36), (0, .ref 1), (1, .ref 63), (2, .int x2)]) kc_125_61 rfl rfl ev36 rfl (xm_lt ml_125 rfl) ?_
        refine xi_goto (pc' := 2) kc_125_64 rfl ?_
        refine xw_lv (b := [(0, .ref 1), (1, .ref 63), (2, .int x2), (3, .int v36)]) (lvS_cons (lvS_cons (lvS_cons (lvS_cons (lvS_nil (show ([3, 0, 1, 2] : List Nat).Nodup by decide)) rfl) rfl) rfl) rfl) ?_
        exact i0 x2 v36 h (by omega) (by omega) K (by omega)
set_option maxHeartbeats 4000000 in
theorem mt_125_0 {J : xe_J} {ov : List (List Int32)} (hJ : ∀ d mj as h, mj ≠ xe_loff → J d mj as h = none) (hov1 : ov[1]? = some [10, 0, 0, 0, 0, 0]) (hov2 : ov[2]? = some [99, 30, 50, 50, 1, 99999]) {d : Nat} {Q : Option Value → xe_H → Prop} {h : xe_H} {x2 : Int32} (T : xt h) (b2 : (0 ≤ x2.toInt ∧ x2.toInt ≤ 600)) (kk : (∀ h' : xe_H, xk [(0, 9), (115, 1), (83, 0), (29, 0), (31, 0), (33, 0), (35, 0), (37, 0), (39, 0), (41, 0), (43, 0), (45, 0), (47, 0), (49, 0), (51, 0), (125, 0), (66, 8), (115, 18), (71, 0), (132, 0)] h h' → Q none h')) : xw J ov (d + 2) 125 (0, [(0, .ref 1), (1, .ref 63), (2, .int x2)], [], h) Q := by
  have K : xk [(0, 9), (115, 1), (83, 0), (29, 0), (31, 0), (33, 0), (35, 0), (37, 0), (39, 0), (41, 0), (43, 0), (45, 0), (47, 0), (49, 0), (51, 0), (125, 0), (66, 8), (115, 18), (71, 0), (132, 0)] h h := xk_re T
  refine xi_iconst (pc' := 1) (v := 0) kc_125_0 rfl rfl ?_
  refine xi_istore_n (pc' := 2) (lv' := [(3, .int 0), (0, .ref 1), (1, .ref 63), (2, .int x2)]) kc_125_1 rfl rfl (xm_lt ml_125 rfl) ?_
  have zc0 : (0 : Int32).toInt = 0 := by decide
  refine xw_lv (b := [(0, .ref 1), (1, .ref 63), (2, .int x2), (3, .int 0)]) (lvS_cons (lvS_cons (lvS_cons (lvS_cons (lvS_nil (show ([3, 0, 1, 2] : List Nat).Nodup by decide)) rfl) rfl) rfl) rfl) ?_
  exact (lp_125_0 hJ hov1 hov2 (d := d) (hb := h) (fun h9 K9 => kk h9 (xk_tr K K9 rfl)) 11) x2 0 h (by omega) (by omega) (xk_re K.1) (by omega)
set_option maxHeartbeats 4000000 in
theorem mt_129_0 {J : xe_J} {ov : List (List Int32)} (hJ : ∀ d mj as h, mj ≠ xe_loff → J d mj as h = none) (hov1 : ov[1]? = some [10, 0, 0, 0, 0, 0]) (hov2 : ov[2]? = some [99, 30, 50, 50, 1, 99999]) {d : Nat} {Q : Option Value → xe_H → Prop} {h : xe_H} {p0 : Nat} (T : xt h) (m0 : List.elem p0 xG_room = true) (kk : (∀ (r : Int32) (h' : xe_H), xk [(0, 9), (115, 1), (83, 0), (29, 0), (31, 0), (33, 0), (35, 0), (37, 0), (39, 0), (41, 0), (43, 0), (45, 0), (47, 0), (49, 0), (51, 0), (125, 0), (66, 8), (115, 18), (71, 0), (132, 0)] h h' → Q (some (.int r)) h')) : xw J ov (d + 1) 129 (0, [(0, .ref p0)], [], h) Q := by
  have K : xk [(0, 9), (115, 1), (83, 0), (29, 0), (31, 0), (33, 0), (35, 0), (37, 0), (39, 0), (41, 0), (43, 0), (45, 0), (47, 0), (49, 0), (51, 0), (125, 0), (66, 8), (115, 18), (71, 0), (132, 0)] h h := xk_re T
  refine xi_aload_n (pc' := 1) (x := p0) kc_129_0 rfl rfl ?_
  obtain ⟨pt1, pt2, mpt1, mpt2, A3⟩ := xg_room K.1 m0
  refine xi_getfield (pc' := 4) (v := .ref pt1) kc_129_1 rfl rfl rfl A3 rfl ?_
  refine xi_iconst (pc' := 5) (v := 2) kc_129_4 rfl rfl ?_
  refine xcps4 (xk_arr K.1 (xGD_room0 mpt1)) (fun y4 A4 hy4 ry4 => ?_)
  refine xcps4 (xj_get hy4 ry4 (i := 2) (by decide) (by decide)) (fun v5 ev5 bv5 dv5 => ?_)
  refine xi_iaload (pc' := 6) (v := v5) kc_129_5 rfl A4 (xk_lo mpt1 rfl) rfl (xi_in (by decide) (by rw [hy4]; decide)) ev5 ?_
  refine xi_aload_n (pc' := 7) (x := p0) kc_129_6 rfl rfl ?_
  refine xi_getfield (pc' := 10) (v := .ref pt1) kc_129_7 rfl rfl rfl A3 rfl ?_
  refine xi_iconst (pc' := 11) (v := 4) kc_129_10 rfl rfl ?_
  refine xcps4 (xj_get hy4 ry4 (i := 4) (by decide) (by decide)) (fun v6 ev6 bv6 dv6 => ?_)
  refine xi_iaload (pc' := 12) (v := v6) kc_129_11 rfl A4 (xk_lo mpt1 rfl) rfl (xi_in (by decide) (by rw [hy4]; decide)) ev6 ?_
  refine xi_iconst (pc' := 13) (v := 1) kc_129_12 rfl rfl ?_
  by_cases c7 : v6.toInt = 1
  · refine xi_cmf (pc' := 16) kc_129_13 rfl (xc_ne_f (X := v6.toInt) (Y := 1) rfl (by decide) (by omega)) ?_
    refine xi_aload_n (pc' := 17) (x := p0) kc_129_16 rfl rfl ?_
    refine xi_getfield (pc' := 20) (v := .ref pt1) kc_129_17 rfl rfl rfl A3 rfl ?_
    refine xi_iconst (pc' := 21) (v := 3) kc_129_20 rfl rfl ?_
    refine xcps4 (xj_get hy4 ry4 (i := 3) (by decide) (by decide)) (fun v8 ev8 bv8 dv8 => ?_)
    refine xi_iaload (pc' := 22) (v := v8) kc_129_21 rfl A4 (xk_lo mpt1 rfl) rfl (xi_in (by decide) (by rw [hy4]; decide)) ev8 ?_
    refine xi_goto (pc' := 26) kc_129_22 rfl ?_
    refine xcps2 (α := Int32) ((v5 : Int32) + v8) (fun v9 ev9 => ?_)
    have rv9 := xc_rng v9
    refine xi_iadd (pc' := 27) (v := v9) kc_129_26 rfl ev9 ?_
    refine xi_ireturn kc_129_27 mr_129 rfl ?_
    exact kk v9 h K
  · refine xi_cmt (pc' := 25) kc_129_13 rfl (xc_ne_t (X := v6.toInt) (Y := 1) rfl (by decide) (by omega)) ?_
    refine xi_iconst (pc' := 26) (v := 0) kc_129_25 rfl rfl ?_
    refine xcps2 (α := Int32) (v5 + 0) (fun v10 ev10 => ?_)
    have zv10 : v10.toInt = v5.toInt := by rw [← ev10]; exact (xz_add (X := v5.toInt) (Y := 0) rfl (by decide) (by omega) (by omega)).trans (by omega)
    refine xi_iadd (pc' := 27) (v := v10) kc_129_26 rfl ev10 ?_
    refine xi_ireturn kc_129_27 mr_129 rfl ?_
    exact kk v10 h K
set_option maxHeartbeats 4000000 in
theorem mt_131_0 {J : xe_J} {ov : List (List Int32)} (hJ : ∀ d mj as h, mj ≠ xe_loff → J d mj as h = none) (hov1 : ov[1]? = some [10, 0, 0, 0, 0, 0]) (hov2 : ov[2]? = some [99, 30, 50, 50, 1, 99999]) {d : Nat} {Q : Option Value → xe_H → Prop} {h : xe_H} {x1 : Int32} {x2 : Int32} (T : xt h) (kk : (∀ h' : xe_H, xk [(0, 9), (115, 1), (83, 0), (29, 0), (31, 0), (33, 0), (35, 0), (37, 0), (39, 0), (41, 0), (43, 0), (45, 0), (47, 0), (49, 0), (51, 0), (125, 0), (66, 8), (115, 18), (71, 0), (132, 0)] h h' → Q none h')) : xw J ov (d + 1) 131 (0, [(0, .ref 63), (1, .int x1), (2, .int x2)], [], h) Q := by
  have K : xk [(0, 9), (115, 1), (83, 0), (29, 0), (31, 0), (33, 0), (35, 0), (37, 0), (39, 0), (41, 0), (43, 0), (45, 0), (47, 0), (49, 0), (51, 0), (125, 0), (66, 8), (115, 18), (71, 0), (132, 0)] h h := xk_re T
  have rx1 := xc_rng x1
  have rx2 := xc_rng x2
  refine xi_iload_n (pc' := 1) (x := x1) kc_131_0 rfl rfl ?_
  by_cases c1 : x1.toInt < 0
  · refine xi_ift (pc' := 40) kc_131_1 rfl (xc_lt_t (X := x1.toInt) (Y := 0) rfl (by decide) (by omega)) ?_
    refine xi_return kc_131_40 mr_131 ?_
    exact kk h K
  · refine xi_iff (pc' := 4) kc_131_1 rfl (xc_lt_f (X := x1.toInt) (Y := 0) rfl (by decide) (by omega)) ?_
    refine xi_iload_n (pc' := 5) (x := x1) kc_131_4 rfl rfl ?_
    refine xi_aload_n (pc' := 6) (x := 63) kc_131_5 rfl rfl ?_
    refine xp_63 K.1 (fun u2 u3 bu2 bu3 A4 => ?_)
    refine xi_getfield (pc' := 9) (v := .ref 65) kc_131_6 rfl rfl rfl A4 rfl ?_
    refine xcps4 (xk_arr K.1 xD_65) (fun y5 A5 hy5 ry5 => ?_)
    refine xi_arraylength (pc' := 10) (n := 12) (v := 12) kc_131_9 rfl (xl_lenI (by decide) (by decide) A5 hy5) rfl ?_
    by_cases c6 : 12 ≤ x1.toInt
    · refine xi_cmt (pc' := 40) kc_131_10 rfl (xc_ge_t (X := x1.toInt) (Y := 12) rfl (by decide) (by omega)) ?_
      refine xi_return kc_131_40 mr_131 ?_
      exact kk h K
    · refine xi_cmf (pc' := 13) kc_131_10 rfl (xc_ge_f (X := x1.toInt) (Y := 12) rfl (by decide) (by omega)) ?_
      refine xi_aload_n (pc' := 14) (x := 63) kc_131_13 rfl rfl ?_
      refine xi_getfield (pc' := 17) (v := .ref 65) kc_131_14 rfl rfl rfl A4 rfl ?_
      refine xi_iload_n (pc' := 18) (x := x1) kc_131_17 rfl rfl ?_
      refine xcps4 (xj_get hy5 ry5 (i := x1) (by omega) (by omega)) (fun v7 ev7 bv7 dv7 => ?_)
      refine xi_iaload (pc' := 19) (v := v7) kc_131_18 rfl A5 (by decide) rfl (xi_in (by omega) (by rw [hy5]; omega)) ev7 ?_
      refine xi_iload_n (pc' := 20) (x := x2) kc_131_19 rfl rfl ?_
      refine xcps2 (α := Int32) ((v7 : Int32) + x2) (fun v8 ev8 => ?_)
      have rv8 := xc_rng v8
      refine xi_iadd (pc' := 21) (v := v8) kc_131_20 rfl ev8 ?_
      refine xi_istore_n (pc' := 22) (lv' := [(3, .int v8), (0, .ref 63), (1, .int x1), (2, .int x2)]) kc_131_21 rfl rfl (xm_lt ml_131 rfl) ?_
      refine xi_aload_n (pc' := 23) (x := 63) kc_131_22 rfl rfl ?_
      refine xi_getfield (pc' := 26) (v := .ref 65) kc_131_23 rfl rfl rfl A4 rfl ?_
      refine xi_iload_n (pc' := 27) (x := x1) kc_131_26 rfl rfl ?_
      refine xi_iload_n (pc' := 28) (x := v8) kc_131_27 rfl rfl ?_
      refine xi_ldc (pc' := 30) (v := 99999) kc_131_28 rfl rfl ?_
      by_cases c9 : v8.toInt ≤ 99999
      · refine xi_cmt (pc' := 38) kc_131_30 rfl (xc_le_t (X := v8.toInt) (Y := 99999) rfl (by decide) (by omega)) ?_
        refine xi_iload_n (pc' := 39) (x := v8) kc_131_38 rfl rfl ?_
        refine xcps4 (xj_set (v := v8) hy5 ry5 x1 (by first | omega | decide) (by first | omega | decide)) (fun y10 s10 hy10 ry10 => ?_)
        refine xi_iastore (pc' := 40) (x' := y10) kc_131_39 rfl A5 rfl (xi_in (by omega) (by rw [hy5]; omega)) s10 (fun hh10 eh10 => ?_)
        have K11 := xk_pa K (xk_wa rfl) xD_65 hy10 ry10 eh10
        refine xi_return kc_131_40 mr_131 ?_
        exact kk hh10 K11
      · refine xi_cmf (pc' := 33) kc_131_30 rfl (xc_le_f (X := v8.toInt) (Y := 99999) rfl (by decide) (by omega)) ?_
        refine xi_ldc (pc' := 35) (v := 99999) kc_131_33 rfl rfl ?_
        refine xi_goto (pc' := 39) kc_131_35 rfl ?_
        refine xcps4 (xj_set (v := 99999) hy5 ry5 x1 (by first | omega | decide) (by first | omega | decide)) (fun y12 s12 hy12 ry12 => ?_)
        refine xi_iastore (pc' := 40) (x' := y12) kc_131_39 rfl A5 rfl (xi_in (by omega) (by rw [hy5]; omega)) s12 (fun hh12 eh12 => ?_)
        have K13 := xk_pa K (xk_wa rfl) xD_65 hy12 ry12 eh12
        refine xi_return kc_131_40 mr_131 ?_
        exact kk hh12 K13
set_option maxHeartbeats 4000000 in
theorem lp_130_0 {J : xe_J} {ov : List (List Int32)} (hJ : ∀ d mj as h, mj ≠ xe_loff → J d mj as h = none) (hov1 : ov[1]? = some [10, 0, 0, 0, 0, 0]) (hov2 : ov[2]? = some [99, 30, 50, 50, 1, 99999]) {d : Nat} {Q : Option Value → xe_H → Prop} {hb : xe_H} (kk : (∀ h' : xe_H, xk [(0, 9), (115, 1), (83, 0), (29, 0), (31, 0), (33, 0), (35, 0), (37, 0), (39, 0), (41, 0), (43, 0), (45, 0), (47, 0), (49, 0), (51, 0), (125, 0), (66, 8), (115, 18), (71, 0), (132, 0)] hb h' → Q none h')) : ∀ m : Nat, (∀ (x2 : Int32) (x3 : Int32) (x4 : Int32) (x5 : Int32) (x6 : Int32) (x7 : Int32) (h : xe_H), (0 ≤ x2.toInt ∧ x2.toInt ≤ 5) → ((-9) ≤ x5.toInt ∧ x5.toInt ≤ 11) → ((-1) ≤ x7.toInt ∧ x7.toInt ≤ 11) → xk [(0, 9), (115, 1), (83, 0), (29, 0), (31, 0), (33, 0), (35, 0), (37, 0), (39, 0), (41, 0), (43, 0), (45, 0), (47, 0), (49, 0), (51, 0), (125, 0), (66, 8), (115, 18), (71, 0), (132, 0)] hb h → (1) * x7.toInt + 14 < (m : Int) → xw J ov (d + 2) 130 (11, [(0, .ref 1), (1, .ref 63), (2, .int x2), (3, .int x3), (4, .int x4), (5, .int x5), (6, .int x6), (7, .int x7)], [], h) Q) ∧ (∀ (x2 : Int32) (x3 : Int32) (x4 : Int32) (x5 : Int32) (x6 : Int32) (x7 : Int32) (x8 : Int32) (h : xe_H), (0 ≤ x2.toInt ∧ x2.toInt ≤ 5) → ((-9) ≤ x5.toInt ∧ x5.toInt ≤ 11) → (0 ≤ x8.toInt ∧ x8.toInt ≤ 12) → xk [(0, 9), (115, 1), (83, 0), (29, 0), (31, 0), (33, 0), (35, 0), (37, 0), (39, 0), (41, 0), (43, 0), (45, 0), (47, 0), (49, 0), (51, 0), (125, 0), (66, 8), (115, 18), (71, 0), (132, 0)] hb h → (-1) * x8.toInt + 12 < (m : Int) → xw J ov (d + 2) 130 (63, [(0, .ref 1), (1, .ref 63), (2, .int x2), (3, .int x3), (4, .int x4), (5, .int x5), (6, .int x6), (7, .int x7), (8, .int x8)], [], h) Q) := by
  intro m
  induction m with
  | zero =>
    refine ⟨?_, ?_⟩
    · intro x2 x3 x4 x5 x6 x7 h b2 b5 b7 K hm; have rx3 := xc_rng x3; have rx4 := xc_rng x4; have rx6 := xc_rng x6; exfalso; omega
    · intro x2 x3 x4 x5 x6 x7 x8 h b2 b5 b8 K hm; have rx3 := xc_rng x3; have rx4 := xc_rng x4; have rx6 := xc_rng x6; have rx7 := xc_rng x7; exfalso; omega
  | succ m ih =>
    obtain ⟨i0, i1⟩ := ih
    refine ⟨?_, ?_⟩
    · intro x2 x3 x4 x5 x6 x7 h b2 b5 b7 K hm
      have rx3 := xc_rng x3
      have rx4 := xc_rng x4
      have rx6 := xc_rng x6
      refine xi_iload (pc' := 13) (x := x7) kc_130_11 rfl rfl ?_
      by_cases c1 : x7.toInt < 0
      · refine xi_ift (pc' := 57) kc_130_13 rfl (xc_lt_t (X := x7.toInt) (Y := 0) rfl (by decide) (by omega)) ?_
        refine xi_iload_n (pc' := 58) (x := x3) kc_130_57 rfl rfl ?_
        refine xi_istore (pc' := 60) (lv' := [(7, .int x3), (0, .ref 1), (1, .ref 63), (2, .int x2), (3, .int x3), (4, .int x4), (5, .int x5), (6, .int x6)]) kc_130_58 rfl rfl (xm_lt ml_130 rfl) ?_
        refine xi_iconst (pc' := 61) (v := 0) kc_130_60 rfl rfl ?_
        refine xi_istore (pc' := 63) (lv' := [(8, .int 0), (7, .int x3), (0, .ref 1), (1, .ref 63), (2, .int x2), (3, .int x3), (4, .int x4), (5, .int x5), (6, .int x6)]) kc_130_61 rfl rfl (xm_lt ml_130 rfl) ?_
        have zc0 : (0 : Int32).toInt = 0 := by decide
        refine xw_lv (b := [(0, .ref 1), (1, .ref 63), (2, .int x2), (3, .int x3), (4, .int x4), (5, .int x5), (6, .int x6), (7, .int x3), (8, .int 0)]) (lvS_cons (lvS_cons (lvS_cons (lvS_cons (lvS_cons (lvS_cons (lvS_cons (lvS_cons (lvS_cons (lvS_nil (show ([8, 7, 0, 1, 2, 3, 4, 5, 6] : List Nat).Nodup by decide)) rfl) rfl) rfl) rfl) rfl) rfl) rfl) rfl) rfl) ?_
        exact i1 x2 x3 x4 x5 x6 x3 0 h (by omega) (by omega) (by omega) K (by omega)
      · refine xi_iff (pc' := 16) kc_130_13 rfl (xc_lt_f (X := x7.toInt) (Y := 0) rfl (by decide) (by omega)) ?_
        refine xi_aload_n (pc' := 17) (x := 1) kc_130_16 rfl rfl ?_
        refine xp_1 K.1 (fun u2 u3 bu2 bu3 A4 => ?_)
        refine xi_getfield (pc' := 20) (v := .ref 3) kc_130_17 rfl rfl rfl A4 rfl ?_
        refine xi_iload (pc' := 22) (x := x7) kc_130_20 rfl rfl ?_
        have A5 := xk_ex K.1 xD_3
        obtain ⟨pt6, ept6, mpt6⟩ := xR_3 (i := x7) (by omega) (by omega)
        refine xj_aaload (pc' := 23) (b := pt6) kc_130_22 rfl A5 rfl (xi_in (n := 12) (by omega) (by omega)) ept6 ?_
        obtain ⟨u7, u8, u9, u10, pt11, bu7, bu8, bu9, bu10, mpt11, A12⟩ := xg_wall K.1 mpt6
        refine xi_getfield (pc' := 26) (v := .int u7) kc_130_23 rfl rfl rfl A12 rfl ?_
        refine xi_iload_n (pc' := 27) (x := x2) kc_130_26 rfl rfl ?_
        by_cases c13 : u7.toInt = x2.toInt
        · refine xi_cmf (pc' := 30) kc_130_27 rfl (xc_ne_f (X := u7.toInt) (Y := x2.toInt) rfl rfl (by omega)) ?_
          refine xi_iload (pc' := 32) (x := x7) kc_130_30 rfl rfl ?_
          refine xi_istore (pc' := 34) (lv' := [(5, .int x7), (0, .ref 1), (1, .ref 63), (2, .int x2), (3, .int x3), (4, .int x4), (6, .int x6), (7, .int x7)]) kc_130_32 rfl rfl (xm_lt ml_130 rfl) ?_
          refine xi_iload (pc' := 36) (x := x6) kc_130_34 rfl rfl ?_
          refine xi_aload_n (pc' := 37) (x := 1) kc_130_36 rfl rfl ?_
          refine xi_getfield (pc' := 40) (v := .ref 3) kc_130_37 rfl rfl rfl A4 rfl ?_
          refine xi_iload (pc' := 42) (x := x7) kc_130_40 rfl rfl ?_
          refine xj_aaload (pc' := 43) (b := pt6) kc_130_42 rfl A5 rfl (xi_in (n := 12) (by omega) (by omega)) ept6 ?_
          refine xi_iload (pc' := 45) (x := x4) kc_130_43 rfl rfl ?_
          refine xi_virtual (mj := 109) (as := [.int x4]) (st1 := [.int x6]) (lv0 := [(0, .ref pt6), (1, .int x4)]) kc_130_45 rfl rfl rfl rfl rfl A12 (Nat.le_of_ble_eq_true rfl) (hJ _ _ _ _ (by decide)) (xm_le ml_109 rfl) rfl ?_
          refine mt_109_0 hJ hov1 hov2 (d := d) (p0 := pt6) (x1 := x4) K.1 mpt6 (fun r14 hh15 br14 K16 => ?_)
          have K17 := xk_tr K K16 rfl
          show xw J ov (d + 2) 130 (48, [(5, .int x7), (0, .ref 1), (1, .ref 63), (2, .int x2), (3, .int x3), (4, .int x4), (6, .int x6), (7, .int x7)], [.int r14, .int x6], hh15) _
          refine xcps2 (α := Int32) ((x6 : Int32) + r14) (fun v18 ev18 => ?_)
          have rv18 := xc_rng v18
          refine xi_iadd (pc' := 49) (v := v18) kc_130_48 rfl ev18 ?_
          refine xi_istore (pc' := 51) (lv' := [(6, .int v18), (5, .int x7), (0, .ref 1), (1, .ref 63), (2, .int x2), (3, .int x3), (4, .int x4), (7, .int x7)]) kc_130_49 rfl rfl (xm_lt ml_130 rfl) ?_
          refine xcps2 (α := Int32) (x7 + (-1)) (fun v19 ev19 => ?_)
          have zv19 : v19.toInt = (x7.toInt + (-1)) := by rw [← ev19]; exact (xz_add (X := x7.toInt) (Y := (-1)) rfl (by decide) (by omega) (by omega)).trans (by omega)
          refine xi_iinc (pc' := 54) (x := x7) (v := v19) (lv' := [(7, .int v19), (6, .int v18), (5, .int x7), (0, .ref 1), (1, .ref 63), (2, .int x2), (3, .int x3), (4, .int x4)]) kc_130_51 rfl rfl ev19 rfl (xm_lt ml_130 rfl) ?_
          refine xi_goto (pc' := 11) kc_130_54 rfl ?_
          refine xw_lv (b := [(0, .ref 1), (1, .ref 63), (2, .int x2), (3, .int x3), (4, .int x4), (5, .int x7), (6, .int v18), (7, .int v19)]) (lvS_cons (lvS_cons (lvS_cons (lvS_cons (lvS_cons (lvS_cons (lvS_cons (lvS_cons (lvS_nil (show ([7, 6, 5, 0, 1, 2, 3, 4] : List Nat).Nodup by decide)) rfl) rfl) rfl) rfl) rfl) rfl) rfl) rfl) ?_
          exact i0 x2 x3 x4 x7 v18 v19 hh15 (by omega) (by omega) (by omega) K17 (by omega)
        · refine xi_cmt (pc' := 51) kc_130_27 rfl (xc_ne_t (X := u7.toInt) (Y := x2.toInt) rfl rfl (by omega)) ?_
          refine xcps2 (α := Int32) (x7 + (-1)) (fun v20 ev20 => ?_)
          have zv20 : v20.toInt = (x7.toInt + (-1)) := by rw [← ev20]; exact (xz_add (X := x7.toInt) (Y := (-1)) rfl (by decide) (by omega) (by omega)).trans (by omega)
          refine xi_iinc (pc' := 54) (x := x7) (v := v20) (lv' := [(7, .int v20), (0, .ref 1), (1, .ref 63), (2, .int x2), (3, .int x3), (4, .int x4), (5, .int x5), (6, .int x6)]) kc_130_51 rfl rfl ev20 rfl (xm_lt ml_130 rfl) ?_
          refine xi_goto (pc' := 11) kc_130_54 rfl ?_
          refine xw_lv (b := [(0, .ref 1), (1, .ref 63), (2, .int x2), (3, .int x3), (4, .int x4), (5, .int x5), (6, .int x6), (7, .int v20)]) (lvS_cons (lvS_cons (lvS_cons (lvS_cons (lvS_cons (lvS_cons (lvS_cons (lvS_cons (lvS_nil (show ([7, 0, 1, 2, 3, 4, 5, 6] : List Nat).Nodup by decide)) rfl) rfl) rfl) rfl) rfl) rfl) rfl) rfl) ?_
          exact i0 x2 x3 x4 x5 x6 v20 h (by omega) (by omega) (by omega) K (by omega)
    · intro x2 x3 x4 x5 x6 x7 x8 h b2 b5 b8 K hm
      have rx3 := xc_rng x3
      have rx4 := xc_rng x4
      have rx6 := xc_rng x6
      have rx7 := xc_rng x7
      refine xi_iload (pc' := 65) (x := x8) kc_130_63 rfl rfl ?_
      refine xi_bipush (pc' := 67) (v := 12) kc_130_65 rfl rfl ?_
      by_cases c1 : 12 ≤ x8.toInt
      · refine xi_cmt (pc' := 129) kc_130_67 rfl (xc_ge_t (X := x8.toInt) (Y := 12) rfl (by decide) (by omega)) ?_
        refine xi_iload (pc' := 131) (x := x5) kc_130_129 rfl rfl ?_
        refine xi_bipush (pc' := 133) (v := (-9)) kc_130_131 rfl rfl ?_
        by_cases c2 : x5.toInt = (-9)
        · refine xi_cmt (pc' := 144) kc_130_133 rfl (xc_eq_t (X := x5.toInt) (Y := (-9)) rfl (by decide) (by omega)) ?_
          refine xi_return kc_130_144 mr_130 ?_
          exact kk h K
        · refine xi_cmf (pc' := 136) kc_130_133 rfl (xc_eq_f (X := x5.toInt) (Y := (-9)) rfl (by decide) (by omega)) ?_
          refine xi_aload_n (pc' := 137) (x := 63) kc_130_136 rfl rfl ?_
          refine xi_iload (pc' := 139) (x := x5) kc_130_137 rfl rfl ?_
          refine xi_iload (pc' := 141) (x := x7) kc_130_139 rfl rfl ?_
          refine xp_63 K.1 (fun u3 u4 bu3 bu4 A5 => ?_)
          refine xi_virtual (mj := 131) (as := [.int x5, .int x7]) (st1 := []) (lv0 := [(0, .ref 63), (1, .int x5), (2, .int x7)]) kc_130_141 rfl rfl rfl rfl rfl A5 (Nat.le_of_ble_eq_true rfl) (hJ _ _ _ _ (by decide)) (xm_le ml_131 rfl) rfl ?_
          refine mt_131_0 hJ hov1 hov2 (d := d) (x1 := x5) (x2 := x7) K.1 (fun hh7 K8 => ?_)
          have K9 := xk_tr K K8 rfl
          show xw J ov (d + 2) 130 (144, [(0, .ref 1), (1, .ref 63), (2, .int x2), (3, .int x3), (4, .int x4), (5, .int x5), (6, .int x6), (7, .int x7), (8, .int x8)], [], hh7) _
          refine xi_return kc_130_144 mr_130 ?_
          exact kk hh7 K9
      · refine xi_cmf (pc' := 70) kc_130_67 rfl (xc_ge_f (X := x8.toInt) (Y := 12) rfl (by decide) (by omega)) ?_
        refine xi_iload (pc' := 72) (x := x6) kc_130_70 rfl rfl ?_
        by_cases c10 : x6.toInt ≤ 0
        · refine xi_ift (pc' := 129) kc_130_72 rfl (xc_le_t (X := x6.toInt) (Y := 0) rfl (by decide) (by omega)) ?_
          refine xi_iload (pc' := 131) (x := x5) kc_130_129 rfl rfl ?_
          refine xi_bipush (pc' := 133) (v := (-9)) kc_130_131 rfl rfl ?_
          by_cases c11 : x5.toInt = (-9)
          · refine xi_cmt (pc' := 144) kc_130_133 rfl (xc_eq_t (X := x5.toInt) (Y := (-9)) rfl (by decide) (by omega)) ?_
            refine xi_return kc_130_144 mr_130 ?_
            exact kk h K
          · refine xi_cmf (pc' := 136) kc_130_133 rfl (xc_eq_f (X := x5.toInt) (Y := (-9)) rfl (by decide) (by omega)) ?_
            refine xi_aload_n (pc' := 137) (x := 63) kc_130_136 rfl rfl ?_
            refine xi_iload (pc' := 139) (x := x5) kc_130_137 rfl rfl ?_
            refine xi_iload (pc' := 141) (x := x7) kc_130_139 rfl rfl ?_
            refine xp_63 K.1 (fun u12 u13 bu12 bu13 A14 => ?_)
            refine xi_virtual (mj := 131) (as := [.int x5, .int x7]) (st1 := []) (lv0 := [(0, .ref 63), (1, .int x5), (2, .int x7)]) kc_130_141 rfl rfl rfl rfl rfl A14 (Nat.le_of_ble_eq_true rfl) (hJ _ _ _ _ (by decide)) (xm_le ml_131 rfl) rfl ?_
            refine mt_131_0 hJ hov1 hov2 (d := d) (x1 := x5) (x2 := x7) K.1 (fun hh16 K17 => ?_)
            have K18 := xk_tr K K17 rfl
            show xw J ov (d + 2) 130 (144, [(0, .ref 1), (1, .ref 63), (2, .int x2), (3, .int x3), (4, .int x4), (5, .int x5), (6, .int x6), (7, .int x7), (8, .int x8)], [], hh16) _
            refine xi_return kc_130_144 mr_130 ?_
            exact kk hh16 K18
        · refine xi_iff (pc' := 75) kc_130_72 rfl (xc_le_f (X := x6.toInt) (Y := 0) rfl (by decide) (by omega)) ?_
          refine xi_aload_n (pc' := 76) (x := 1) kc_130_75 rfl rfl ?_
          refine xp_1 K.1 (fun u19 u20 bu19 bu20 A21 => ?_)
          refine xi_getfield (pc' := 79) (v := .ref 3) kc_130_76 rfl rfl rfl A21 rfl ?_
          refine xi_iload (pc' := 81) (x := x8) kc_130_79 rfl rfl ?_
          have A22 := xk_ex K.1 xD_3
          obtain ⟨pt23, ept23, mpt23⟩ := xR_3 (i := x8) (by omega) (by omega)
          refine xj_aaload (pc' := 82) (b := pt23) kc_130_81 rfl A22 rfl (xi_in (n := 12) (by omega) (by omega)) ept23 ?_
          obtain ⟨u24, u25, u26, u27, pt28, bu24, bu25, bu26, bu27, mpt28, A29⟩ := xg_wall K.1 mpt23
          refine xi_getfield (pc' := 85) (v := .int u24) kc_130_82 rfl rfl rfl A29 rfl ?_
          refine xi_iload_n (pc' := 86) (x := x2) kc_130_85 rfl rfl ?_
          by_cases c30 : u24.toInt = x2.toInt
          · refine xi_cmf (pc' := 89) kc_130_86 rfl (xc_ne_f (X := u24.toInt) (Y := x2.toInt) rfl rfl (by omega)) ?_
            refine xi_iload_n (pc' := 90) (x := x3) kc_130_89 rfl rfl ?_
            refine xi_aload_n (pc' := 91) (x := 1) kc_130_90 rfl rfl ?_
            refine xi_getfield (pc' := 94) (v := .ref 3) kc_130_91 rfl rfl rfl A21 rfl ?_
            refine xi_iload (pc' := 96) (x := x8) kc_130_94 rfl rfl ?_
            refine xj_aaload (pc' := 97) (b := pt23) kc_130_96 rfl A22 rfl (xi_in (n := 12) (by omega) (by omega)) ept23 ?_
            refine xi_iload (pc' := 99) (x := x4) kc_130_97 rfl rfl ?_
            refine xi_virtual (mj := 109) (as := [.int x4]) (st1 := [.int x3]) (lv0 := [(0, .ref pt23), (1, .int x4)]) kc_130_99 rfl rfl rfl rfl rfl A29 (Nat.le_of_ble_eq_true rfl) (hJ _ _ _ _ (by decide)) (xm_le ml_109 rfl) rfl ?_
            refine mt_109_0 hJ hov1 hov2 (d := d) (p0 := pt23) (x1 := x4) K.1 mpt23 (fun r31 hh32 br31 K33 => ?_)
            have K34 := xk_tr K K33 rfl
            show xw J ov (d + 2) 130 (102, [(0, .ref 1), (1, .ref 63), (2, .int x2), (3, .int x3), (4, .int x4), (5, .int x5), (6, .int x6), (7, .int x7), (8, .int x8)], [.int r31, .int x3], hh32) _
            refine xcps2 (α := Int32) ((x3 : Int32) * r31) (fun v35 ev35 => ?_)
            have rv35 := xc_rng v35
            refine xi_imul (pc' := 103) (v := v35) kc_130_102 rfl ev35 ?_
            refine xi_iload (pc' := 105) (x := x6) kc_130_103 rfl rfl ?_
            refine xcps2 (α := Int32) ((v35 : Int32) / x6) (fun v36 ev36 => ?_)
            have rv36 := xc_rng v36
            refine xi_idiv (pc' := 106) (v := v36) kc_130_105 rfl ev36 (xj_nz (by omega)) ?_
            refine xi_istore (pc' := 108) (lv' := [(9, .int v36), (0, .ref 1), (1, .ref 63), (2, .int x2), (3, .int x3), (4, .int x4), (5, .int x5), (6, .int x6), (7, .int x7), (8, .int x8)]) kc_130_106 rfl rfl (xm_lt ml_130 rfl) ?_
            refine xi_aload_n (pc' := 109) (x := 63) kc_130_108 rfl rfl ?_
            refine xi_iload (pc' := 111) (x := x8) kc_130_109 rfl rfl ?_
            refine xi_iload (pc' := 113) (x := v36) kc_130_111 rfl rfl ?_
            refine xp_63 K34.1 (fun u37 u38 bu37 bu38 A39 => ?_)
            refine xi_virtual (mj := 131) (as := [.int x8, .int v36]) (st1 := []) (lv0 := [(0, .ref 63), (1, .int x8), (2, .int v36)]) kc_130_113 rfl rfl rfl rfl rfl A39 (Nat.le_of_ble_eq_true rfl) (hJ _ _ _ _ (by decide)) (xm_le ml_131 rfl) rfl ?_
            refine mt_131_0 hJ hov1 hov2 (d := d) (x1 := x8) (x2 := v36) K34.1 (fun hh41 K42 => ?_)
            have K43 := xk_tr K34 K42 rfl
            show xw J ov (d + 2) 130 (116, [(9, .int v36), (0, .ref 1), (1, .ref 63), (2, .int x2), (3, .int x3), (4, .int x4), (5, .int x5), (6, .int x6), (7, .int x7), (8, .int x8)], [], hh41) _
            refine xi_iload (pc' := 118) (x := x7) kc_130_116 rfl rfl ?_
            refine xi_iload (pc' := 120) (x := v36) kc_130_118 rfl rfl ?_
            refine xcps2 (α := Int32) ((x7 : Int32) - v36) (fun v44 ev44 => ?_)
            have rv44 := xc_rng v44
            refine xi_isub (pc' := 121) (v := v44) kc_130_120 rfl ev44 ?_
            refine xi_istore (pc' := 123) (lv' := [(7, .int v44), (9, .int v36), (0, .ref 1), (1, .ref 63), (2, .int x2), (3, .int x3), (4, .int x4), (5, .int x5), (6, .int x6), (8, .int x8)]) kc_130_121 rfl rfl (xm_lt ml_130 rfl) ?_
            refine xcps2 (α := Int32) (x8 + 1) (fun v45 ev45 => ?_)
            have zv45 : v45.toInt = (x8.toInt + 1) := by rw [← ev45]; exact (xz_add (X := x8.toInt) (Y := 1) rfl (by decide) (by omega) (by omega)).trans (by omega)
            refine xi_iinc (pc' := 126) (x := x8) (v := v45) (lv' := [(8, .int v45), (7, .int v44), (9, .int v36), (0, .ref 1), (1, .ref 63), (2, .int x2), (3, .int x3), (4, .int x4), (5, .int x5), (6, .int x6)]) kc_130_123 rfl rfl ev45 rfl (xm_lt ml_130 rfl) ?_
            refine xi_goto (pc' := 63) kc_130_126 rfl ?_
            refine xw_lv (b := [(0, .ref 1), (1, .ref 63), (2, .int x2), (3, .int x3), (4, .int x4), (5, .int x5), (6, .int x6), (7, .int v44), (8, .int v45)]) (lvS_cons (lvS_cons (lvS_cons (lvS_cons (lvS_cons (lvS_cons (lvS_cons (lvS_cons (lvS_cons (lvS_nil (show ([8, 7, 9, 0, 1, 2, 3, 4, 5, 6] : List Nat).Nodup by decide)) rfl) rfl) rfl) rfl) rfl) rfl) rfl) rfl) rfl) ?_
            exact i1 x2 x3 x4 x5 x6 v44 v45 hh41 (by omega) (by omega) (by omega) K43 (by omega)
          · refine xi_cmt (pc' := 123) kc_130_86 rfl (xc_ne_t (X := u24.toInt) (Y := x2.toInt) rfl rfl (by omega)) ?_
            refine xcps2 (α := Int32) (x8 + 1) (fun v46 ev46 => ?_)
            have zv46 : v46.toInt = (x8.toInt + 1) := by rw [← ev46]; exact (xz_add (X := x8.toInt) (Y := 1) rfl (by decide) (by omega) (by omega)).trans (by omega)
            refine xi_iinc (pc' := 126) (x := x8) (v := v46) (lv' := [(8, .int v46), (0, .ref 1), (1, .ref 63), (2, .int x2), (3, .int x3), (4, .int x4), (5, .int x5), (6, .int x6), (7, .int x7)]) kc_130_123 rfl rfl ev46 rfl (xm_lt ml_130 rfl) ?_
            refine xi_goto (pc' := 63) kc_130_126 rfl ?_
            refine xw_lv (b := [(0, .ref 1), (1, .ref 63), (2, .int x2), (3, .int x3), (4, .int x4), (5, .int x5), (6, .int x6), (7, .int x7), (8, .int v46)]) (lvS_cons (lvS_cons (lvS_cons (lvS_cons (lvS_cons (lvS_cons (lvS_cons (lvS_cons (lvS_cons (lvS_nil (show ([8, 0, 1, 2, 3, 4, 5, 6, 7] : List Nat).Nodup by decide)) rfl) rfl) rfl) rfl) rfl) rfl) rfl) rfl) rfl) ?_
            exact i1 x2 x3 x4 x5 x6 x7 v46 h (by omega) (by omega) (by omega) K (by omega)
set_option maxHeartbeats 4000000 in
theorem mt_130_0 {J : xe_J} {ov : List (List Int32)} (hJ : ∀ d mj as h, mj ≠ xe_loff → J d mj as h = none) (hov1 : ov[1]? = some [10, 0, 0, 0, 0, 0]) (hov2 : ov[2]? = some [99, 30, 50, 50, 1, 99999]) {d : Nat} {Q : Option Value → xe_H → Prop} {h : xe_H} {x2 : Int32} {x3 : Int32} {x4 : Int32} (T : xt h) (b2 : (0 ≤ x2.toInt ∧ x2.toInt ≤ 5)) (kk : (∀ h' : xe_H, xk [(0, 9), (115, 1), (83, 0), (29, 0), (31, 0), (33, 0), (35, 0), (37, 0), (39, 0), (41, 0), (43, 0), (45, 0), (47, 0), (49, 0), (51, 0), (125, 0), (66, 8), (115, 18), (71, 0), (132, 0)] h h' → Q none h')) : xw J ov (d + 2) 130 (0, [(0, .ref 1), (1, .ref 63), (2, .int x2), (3, .int x3), (4, .int x4)], [], h) Q := by
  have K : xk [(0, 9), (115, 1), (83, 0), (29, 0), (31, 0), (33, 0), (35, 0), (37, 0), (39, 0), (41, 0), (43, 0), (45, 0), (47, 0), (49, 0), (51, 0), (125, 0), (66, 8), (115, 18), (71, 0), (132, 0)] h h := xk_re T
  have rx3 := xc_rng x3
  have rx4 := xc_rng x4
  refine xi_bipush (pc' := 2) (v := (-9)) kc_130_0 rfl rfl ?_
  refine xi_istore (pc' := 4) (lv' := [(5, .int (-9)), (0, .ref 1), (1, .ref 63), (2, .int x2), (3, .int x3), (4, .int x4)]) kc_130_2 rfl rfl (xm_lt ml_130 rfl) ?_
  refine xi_iconst (pc' := 5) (v := 0) kc_130_4 rfl rfl ?_
  refine xi_istore (pc' := 7) (lv' := [(6, .int 0), (5, .int (-9)), (0, .ref 1), (1, .ref 63), (2, .int x2), (3, .int x3), (4, .int x4)]) kc_130_5 rfl rfl (xm_lt ml_130 rfl) ?_
  refine xi_bipush (pc' := 9) (v := 11) kc_130_7 rfl rfl ?_
  refine xi_istore (pc' := 11) (lv' := [(7, .int 11), (6, .int 0), (5, .int (-9)), (0, .ref 1), (1, .ref 63), (2, .int x2), (3, .int x3), (4, .int x4)]) kc_130_9 rfl rfl (xm_lt ml_130 rfl) ?_
  have zcm9 : ((-9) : Int32).toInt = (-9) := by decide
  have zc0 : (0 : Int32).toInt = 0 := by decide
  have zc11 : (11 : Int32).toInt = 11 := by decide
  refine xw_lv (b := [(0, .ref 1), (1, .ref 63), (2, .int x2), (3, .int x3), (4, .int x4), (5, .int (-9)), (6, .int 0), (7, .int 11)]) (lvS_cons (lvS_cons (lvS_cons (lvS_cons (lvS_cons (lvS_cons (lvS_cons (lvS_cons (lvS_nil (show ([7, 6, 5, 0, 1, 2, 3, 4] : List Nat).Nodup by decide)) rfl) rfl) rfl) rfl) rfl) rfl) rfl) rfl) ?_
  exact (lp_130_0 hJ hov1 hov2 (d := d) (hb := h) (fun h9 K9 => kk h9 (xk_tr K K9 rfl)) 26).1 x2 x3 x4 (-9) 0 11 h (by omega) (by omega) (by omega) (xk_re K.1) (by omega)
set_option maxHeartbeats 4000000 in
theorem mt_128_0 {J : xe_J} {ov : List (List Int32)} (hJ : ∀ d mj as h, mj ≠ xe_loff → J d mj as h = none) (hov1 : ov[1]? = some [10, 0, 0, 0, 0, 0]) (hov2 : ov[2]? = some [99, 30, 50, 50, 1, 99999]) {d : Nat} {Q : Option Value → xe_H → Prop} {h : xe_H} {x2 : Int32} {x3 : Int32} {x4 : Int32} (T : xt h) (b2 : (0 ≤ x2.toInt ∧ x2.toInt ≤ 5)) (b3 : (0 ≤ x3.toInt ∧ x3.toInt ≤ 600)) (kk : (∀ h' : xe_H, xk [(0, 9), (115, 1), (83, 0), (29, 0), (31, 0), (33, 0), (35, 0), (37, 0), (39, 0), (41, 0), (43, 0), (45, 0), (47, 0), (49, 0), (51, 0), (125, 0), (66, 8), (115, 18), (71, 0), (132, 0)] h h' → Q none h')) : xw J ov (d + 3) 128 (0, [(0, .ref 1), (1, .ref 63), (2, .int x2), (3, .int x3), (4, .int x4)], [], h) Q := by
  have K : xk [(0, 9), (115, 1), (83, 0), (29, 0), (31, 0), (33, 0), (35, 0), (37, 0), (39, 0), (41, 0), (43, 0), (45, 0), (47, 0), (49, 0), (51, 0), (125, 0), (66, 8), (115, 18), (71, 0), (132, 0)] h h := xk_re T
  have rx4 := xc_rng x4
  refine xi_aload_n (pc' := 1) (x := 1) kc_128_0 rfl rfl ?_
  refine xp_1 K.1 (fun u1 u2 bu1 bu2 A3 => ?_)
  refine xi_getfield (pc' := 4) (v := .ref 2) kc_128_1 rfl rfl rfl A3 rfl ?_
  refine xi_iload_n (pc' := 5) (x := x2) kc_128_4 rfl rfl ?_
  have A4 := xk_ex K.1 xD_2
  obtain ⟨pt5, ept5, mpt5⟩ := xR_2 (i := x2) (by omega) (by omega)
  refine xj_aaload (pc' := 6) (b := pt5) kc_128_5 rfl A4 rfl (xi_in (n := 6) (by omega) (by omega)) ept5 ?_
  refine xi_astore (pc' := 8) (lv' := [(5, .ref pt5), (0, .ref 1), (1, .ref 63), (2, .int x2), (3, .int x3), (4, .int x4)]) kc_128_6 rfl rfl (xm_lt ml_128 rfl) ?_
  refine xi_aload_n (pc' := 9) (x := 63) kc_128_8 rfl rfl ?_
  refine xi_iload_n (pc' := 10) (x := x2) kc_128_9 rfl rfl ?_
  refine xi_aload (pc' := 12) (x := pt5) kc_128_10 rfl rfl ?_
  obtain ⟨pt6, pt7, mpt6, mpt7, A8⟩ := xg_room K.1 mpt5
  refine xi_getfield (pc' := 15) (v := .ref pt7) kc_128_12 rfl rfl rfl A8 rfl ?_
  refine xi_iload_n (pc' := 16) (x := x3) kc_128_15 rfl rfl ?_
  refine xi_bipush (pc' := 18) (v := 24) kc_128_16 rfl rfl ?_
  refine xi_static (mj := 3) (as := [.int x3, .int 24]) (st1 := [.ref pt7, .int x2, .ref 63]) (lv0 := [(0, .int x3), (1, .int 24)]) kc_128_18 rfl rfl (Nat.le_of_ble_eq_true rfl) rfl rfl (Nat.le_of_ble_eq_true rfl) (hJ _ _ _ _ (by decide)) (xm_le ml_3 rfl) rfl ?_
  refine xi_iload_n (pc' := 1) (x := x3) kc_3_0 rfl rfl ?_
  refine xi_iload_n (pc' := 2) (x := 24) kc_3_1 rfl rfl ?_
  refine xcps2 (α := Int32) (x3 - x3 / 24 * 24) (fun v9 ev9 => ?_)
  have dv9 : v9.toInt = x3.toInt % 24 := by rw [← ev9]; exact xz_reme (X := x3.toInt) (Y := 24) rfl (by decide) (by omega) (by decide)
  have bv9 : 0 ≤ v9.toInt ∧ v9.toInt ≤ 23 := by omega
  refine xi_irem (pc' := 3) (v := v9) kc_3_2 rfl ev9 (by decide) ?_
  refine xi_istore_n (pc' := 4) (lv' := [(2, .int v9), (0, .int x3), (1, .int 24)]) kc_3_3 rfl rfl (xm_lt ml_3 rfl) ?_
  refine xi_iload_n (pc' := 5) (x := x3) kc_3_4 rfl rfl ?_
  refine xi_iload_n (pc' := 6) (x := 24) kc_3_5 rfl rfl ?_
  refine xcps2 (α := Int32) ((x3 : Int32) ^^^ 24) (fun v10 ev10 => ?_)
  have rv10 := xc_rng v10
  have bv10 : 0 ≤ v10.toInt := by rw [← ev10]; exact xz_xor (by first | omega | decide) (by first | omega | decide)
  refine xi_ixor (pc' := 7) (v := v10) kc_3_6 rfl ev10 ?_
  refine xi_ift (pc' := 18) kc_3_7 rfl (xc_ge_t (X := v10.toInt) (Y := 0) rfl (by decide) (by omega)) ?_
  refine xi_iload_n (pc' := 19) (x := v9) kc_3_18 rfl rfl ?_
  refine xi_ireturn kc_3_19 mr_3 rfl ?_
  show xw J ov (d + 3) 128 (21, [(5, .ref pt5), (0, .ref 1), (1, .ref 63), (2, .int x2), (3, .int x3), (4, .int x4)], [.int v9, .ref pt7, .int x2, .ref 63], h) _
  refine xcps4 (xk_arr K.1 (xGD_room1 mpt7)) (fun y11 A11 hy11 ry11 => ?_)
  refine xcps4 (xj_get hy11 ry11 (i := v9) (by omega) (by omega)) (fun v12 ev12 bv12 dv12 => ?_)
  refine xi_iaload (pc' := 22) (v := v12) kc_128_21 rfl A11 (xk_lo mpt7 rfl) rfl (xi_in (by omega) (by rw [hy11]; omega)) ev12 ?_
  refine xp_63 K.1 (fun u13 u14 bu13 bu14 A15 => ?_)
  refine xi_virtual (mj := 127) (as := [.int x2, .int v12]) (st1 := []) (lv0 := [(0, .ref 63), (1, .int x2), (2, .int v12)]) kc_128_22 rfl rfl rfl rfl rfl A15 (Nat.le_of_ble_eq_true rfl) (hJ _ _ _ _ (by decide)) (xm_le ml_127 rfl) rfl ?_
  refine mt_127_0 hJ hov1 hov2 (d := d + 1) (x1 := x2) (x2 := v12) K.1 (fun hh17 K18 => ?_)
  have K19 := xk_tr K K18 rfl
  show xw J ov (d + 3) 128 (25, [(5, .ref pt5), (0, .ref 1), (1, .ref 63), (2, .int x2), (3, .int x3), (4, .int x4)], [], hh17) _
  refine xi_aload_n (pc' := 26) (x := 63) kc_128_25 rfl rfl ?_
  refine xp_63 K19.1 (fun u20 u21 bu20 bu21 A22 => ?_)
  refine xi_getfield (pc' := 29) (v := .ref 64) kc_128_26 rfl rfl rfl A22 rfl ?_
  refine xi_iload_n (pc' := 30) (x := x2) kc_128_29 rfl rfl ?_
  refine xcps4 (xk_arr K19.1 xD_64) (fun y23 A23 hy23 ry23 => ?_)
  refine xcps4 (xj_get hy23 ry23 (i := x2) (by omega) (by omega)) (fun v24 ev24 bv24 dv24 => ?_)
  refine xi_iaload (pc' := 31) (v := v24) kc_128_30 rfl A23 (by decide) rfl (xi_in (by omega) (by rw [hy23]; omega)) ev24 ?_
  refine xi_istore (pc' := 33) (lv' := [(6, .int v24), (5, .ref pt5), (0, .ref 1), (1, .ref 63), (2, .int x2), (3, .int x3), (4, .int x4)]) kc_128_31 rfl rfl (xm_lt ml_128 rfl) ?_
  refine xi_aload (pc' := 35) (x := pt5) kc_128_33 rfl rfl ?_
  obtain ⟨pt25, pt26, mpt25, mpt26, A27⟩ := xg_room K19.1 mpt5
  refine xi_getfield (pc' := 38) (v := .ref pt25) kc_128_35 rfl rfl rfl A27 rfl ?_
  refine xi_iconst (pc' := 39) (v := 0) kc_128_38 rfl rfl ?_
  refine xcps4 (xk_arr K19.1 (xGD_room0 mpt25)) (fun y28 A28 hy28 ry28 => ?_)
  refine xcps4 (xj_get hy28 ry28 (i := 0) (by decide) (by decide)) (fun v29 ev29 bv29 dv29 => ?_)
  refine xi_iaload (pc' := 40) (v := v29) kc_128_39 rfl A28 (xk_lo mpt25 rfl) rfl (xi_in (by decide) (by rw [hy28]; decide)) ev29 ?_
  refine xi_istore (pc' := 42) (lv' := [(7, .int v29), (6, .int v24), (5, .ref pt5), (0, .ref 1), (1, .ref 63), (2, .int x2), (3, .int x3), (4, .int x4)]) kc_128_40 rfl rfl (xm_lt ml_128 rfl) ?_
  refine xi_iload (pc' := 44) (x := v29) kc_128_42 rfl rfl ?_
  refine xi_iload (pc' := 46) (x := x4) kc_128_44 rfl rfl ?_
  refine xi_static (mj := 102) (as := [.int x4]) (st1 := [.int v29]) (lv0 := [(0, .int x4)]) kc_128_46 rfl rfl (Nat.le_of_ble_eq_true rfl) rfl rfl (Nat.le_of_ble_eq_true rfl) (hJ _ _ _ _ (by decide)) (xm_le ml_102 rfl) rfl ?_
  refine mt_102_0 hJ hov1 hov2 (d := d) (x0 := x4) K19.1 (fun r30 hh31 br30 K32 => ?_)
  have K33 := xk_tr K19 K32 rfl
  show xw J ov (d + 3) 128 (49, [(7, .int v29), (6, .int v24), (5, .ref pt5), (0, .ref 1), (1, .ref 63), (2, .int x2), (3, .int x3), (4, .int x4)], [.int r30, .int v29], hh31) _
  refine xcps2 (α := Int32) ((v29 : Int32) * r30) (fun v34 ev34 => ?_)
  have rv34 := xc_rng v34
  refine xi_imul (pc' := 50) (v := v34) kc_128_49 rfl ev34 ?_
  refine xi_iconst (pc' := 51) (v := 2) kc_128_50 rfl rfl ?_
  refine xcps2 (α := Int32) (v34 / 2) (fun v35 ev35 => ?_)
  have dv35 : 2 * v35.toInt ≤ v34.toInt + 1 ∧ v34.toInt ≤ 2 * v35.toInt + 1 := by rw [← ev35]; exact xz_div (X := v34.toInt) (Y := 2) rfl (by decide) (by decide)
  have bv35 : -1073741825 ≤ v35.toInt ∧ v35.toInt ≤ 1073741824 := by omega
  refine xi_idiv (pc' := 52) (v := v35) kc_128_51 rfl ev35 (by decide) ?_
  refine xi_istore (pc' := 54) (lv' := [(8, .int v35), (7, .int v29), (6, .int v24), (5, .ref pt5), (0, .ref 1), (1, .ref 63), (2, .int x2), (3, .int x3), (4, .int x4)]) kc_128_52 rfl rfl (xm_lt ml_128 rfl) ?_
  refine xi_iload (pc' := 56) (x := v24) kc_128_54 rfl rfl ?_
  refine xi_iload (pc' := 58) (x := v24) kc_128_56 rfl rfl ?_
  refine xi_iload (pc' := 60) (x := v35) kc_128_58 rfl rfl ?_
  refine xcps2 (α := Int32) ((v24 : Int32) - v35) (fun v36 ev36 => ?_)
  have rv36 := xc_rng v36
  refine xi_isub (pc' := 61) (v := v36) kc_128_60 rfl ev36 ?_
  refine xi_aload (pc' := 63) (x := pt5) kc_128_61 rfl rfl ?_
  obtain ⟨pt37, pt38, mpt37, mpt38, A39⟩ := xg_room K33.1 mpt5
  refine xi_virtual (mj := 129) (as := []) (st1 := [.int v36, .int v24]) (lv0 := [(0, .ref pt5)]) kc_128_63 rfl rfl rfl rfl rfl A39 (Nat.le_of_ble_eq_true rfl) (hJ _ _ _ _ (by decide)) (xm_le ml_129 rfl) rfl ?_
  refine mt_129_0 hJ hov1 hov2 (d := d + 1) (p0 := pt5) K33.1 mpt5 (fun r40 hh41 K42 => ?_)
  have br40 := xc_rng r40
  have K43 := xk_tr K33 K42 rfl
  show xw J ov (d + 3) 128 (66, [(8, .int v35), (7, .int v29), (6, .int v24), (5, .ref pt5), (0, .ref 1), (1, .ref 63), (2, .int x2), (3, .int x3), (4, .int x4)], [.int r40, .int v36, .int v24], hh41) _
  refine xcps2 (α := Int32) ((v36 : Int32) * r40) (fun v44 ev44 => ?_)
  have rv44 := xc_rng v44
  refine xi_imul (pc' := 67) (v := v44) kc_128_66 rfl ev44 ?_
  refine xi_bipush (pc' := 69) (v := 100) kc_128_67 rfl rfl ?_
  refine xcps2 (α := Int32) (v44 / 100) (fun v45 ev45 => ?_)
  have dv45 : 100 * v45.toInt ≤ v44.toInt + 99 ∧ v44.toInt ≤ 100 * v45.toInt + 99 := by rw [← ev45]; exact xz_div (X := v44.toInt) (Y := 100) rfl (by decide) (by decide)
  have bv45 : -21474837 ≤ v45.toInt ∧ v45.toInt ≤ 21474837 := by omega
  refine xi_idiv (pc' := 70) (v := v45) kc_128_69 rfl ev45 (by decide) ?_
  refine xcps2 (α := Int32) ((v24 : Int32) - v45) (fun v46 ev46 => ?_)
  have rv46 := xc_rng v46
  refine xi_isub (pc' := 71) (v := v46) kc_128_70 rfl ev46 ?_
  refine xi_istore (pc' := 73) (lv' := [(6, .int v46), (8, .int v35), (7, .int v29), (5, .ref pt5), (0, .ref 1), (1, .ref 63), (2, .int x2), (3, .int x3), (4, .int x4)]) kc_128_71 rfl rfl (xm_lt ml_128 rfl) ?_
  refine xi_aload (pc' := 75) (x := pt5) kc_128_73 rfl rfl ?_
  obtain ⟨pt47, pt48, mpt47, mpt48, A49⟩ := xg_room K43.1 mpt5
  refine xi_getfield (pc' := 78) (v := .ref pt47) kc_128_75 rfl rfl rfl A49 rfl ?_
  refine xi_iconst (pc' := 79) (v := 1) kc_128_78 rfl rfl ?_
  refine xcps4 (xk_arr K43.1 (xGD_room0 mpt47)) (fun y50 A50 hy50 ry50 => ?_)
  refine xcps4 (xj_get hy50 ry50 (i := 1) (by decide) (by decide)) (fun v51 ev51 bv51 dv51 => ?_)
  refine xi_iaload (pc' := 80) (v := v51) kc_128_79 rfl A50 (xk_lo mpt47 rfl) rfl (xi_in (by decide) (by rw [hy50]; decide)) ev51 ?_
  refine xi_istore (pc' := 82) (lv' := [(9, .int v51), (6, .int v46), (8, .int v35), (7, .int v29), (5, .ref pt5), (0, .ref 1), (1, .ref 63), (2, .int x2), (3, .int x3), (4, .int x4)]) kc_128_80 rfl rfl (xm_lt ml_128 rfl) ?_
  refine xi_iload (pc' := 84) (x := v29) kc_128_82 rfl rfl ?_
  refine xi_iload (pc' := 86) (x := v51) kc_128_84 rfl rfl ?_
  refine xi_static (mj := 102) (as := [.int v51]) (st1 := [.int v29]) (lv0 := [(0, .int v51)]) kc_128_86 rfl rfl (Nat.le_of_ble_eq_true rfl) rfl rfl (Nat.le_of_ble_eq_true rfl) (hJ _ _ _ _ (by decide)) (xm_le ml_102 rfl) rfl ?_
  refine mt_102_0 hJ hov1 hov2 (d := d) (x0 := v51) K43.1 (fun r52 hh53 br52 K54 => ?_)
  have K55 := xk_tr K43 K54 rfl
  show xw J ov (d + 3) 128 (89, [(9, .int v51), (6, .int v46), (8, .int v35), (7, .int v29), (5, .ref pt5), (0, .ref 1), (1, .ref 63), (2, .int x2), (3, .int x3), (4, .int x4)], [.int r52, .int v29], hh53) _
  refine xcps2 (α := Int32) ((v29 : Int32) * r52) (fun v56 ev56 => ?_)
  have rv56 := xc_rng v56
  refine xi_imul (pc' := 90) (v := v56) kc_128_89 rfl ev56 ?_
  refine xi_istore (pc' := 92) (lv' := [(10, .int v56), (9, .int v51), (6, .int v46), (8, .int v35), (7, .int v29), (5, .ref pt5), (0, .ref 1), (1, .ref 63), (2, .int x2), (3, .int x3), (4, .int x4)]) kc_128_90 rfl rfl (xm_lt ml_128 rfl) ?_
  refine xi_iload (pc' := 94) (x := v46) kc_128_92 rfl rfl ?_
  refine xi_iload (pc' := 96) (x := v56) kc_128_94 rfl rfl ?_
  by_cases c57 : v46.toInt ≤ v56.toInt
  · refine xi_cmt (pc' := 119) kc_128_96 rfl (xc_le_t (X := v46.toInt) (Y := v56.toInt) rfl rfl (by omega)) ?_
    refine xi_aload_n (pc' := 120) (x := 63) kc_128_119 rfl rfl ?_
    refine xp_63 K55.1 (fun u58 u59 bu58 bu59 A60 => ?_)
    refine xi_getfield (pc' := 123) (v := .ref 64) kc_128_120 rfl rfl rfl A60 rfl ?_
    refine xi_iload_n (pc' := 124) (x := x2) kc_128_123 rfl rfl ?_
    refine xi_iload (pc' := 126) (x := v46) kc_128_124 rfl rfl ?_
    refine xcps4 (xk_arr K55.1 xD_64) (fun y61 A61 hy61 ry61 => ?_)
    refine xcps4 (xj_set (v := v46) hy61 ry61 x2 (by first | omega | decide) (by first | omega | decide)) (fun y62 s62 hy62 ry62 => ?_)
    refine xi_iastore (pc' := 127) (x' := y62) kc_128_126 rfl A61 rfl (xi_in (by omega) (by rw [hy61]; omega)) s62 (fun hh62 eh62 => ?_)
    have K63 := xk_pa K55 (xk_wa rfl) xD_64 hy62 ry62 eh62
    refine xi_return kc_128_127 mr_128 ?_
    exact kk hh62 K63
  · refine xi_cmf (pc' := 99) kc_128_96 rfl (xc_le_f (X := v46.toInt) (Y := v56.toInt) rfl rfl (by omega)) ?_
    refine xi_aload_n (pc' := 100) (x := 1) kc_128_99 rfl rfl ?_
    refine xi_aload_n (pc' := 101) (x := 63) kc_128_100 rfl rfl ?_
    refine xi_iload_n (pc' := 102) (x := x2) kc_128_101 rfl rfl ?_
    refine xi_iload (pc' := 104) (x := v46) kc_128_102 rfl rfl ?_
    refine xi_iload (pc' := 106) (x := v56) kc_128_104 rfl rfl ?_
    refine xcps2 (α := Int32) ((v46 : Int32) - v56) (fun v64 ev64 => ?_)
    have rv64 := xc_rng v64
    refine xi_isub (pc' := 107) (v := v64) kc_128_106 rfl ev64 ?_
    refine xi_iload (pc' := 109) (x := v51) kc_128_107 rfl rfl ?_
    refine xi_iload (pc' := 111) (x := x4) kc_128_109 rfl rfl ?_
    refine xcps2 (α := Int32) ((v51 : Int32) - x4) (fun v65 ev65 => ?_)
    have rv65 := xc_rng v65
    refine xi_isub (pc' := 112) (v := v65) kc_128_111 rfl ev65 ?_
    refine xp_1 K55.1 (fun u66 u67 bu66 bu67 A68 => ?_)
    refine xi_virtual (mj := 130) (as := [.ref 63, .int x2, .int v64, .int v65]) (st1 := []) (lv0 := [(0, .ref 1), (1, .ref 63), (2, .int x2), (3, .int v64), (4, .int v65)]) kc_128_112 rfl rfl rfl rfl rfl A68 (Nat.le_of_ble_eq_true rfl) (hJ _ _ _ _ (by decide)) (xm_le ml_130 rfl) rfl ?_
    refine mt_130_0 hJ hov1 hov2 (d := d) (x2 := x2) (x3 := v64) (x4 := v65) K55.1 (by first | omega | decide) (fun hh70 K71 => ?_)
    have K72 := xk_tr K55 K71 rfl
    show xw J ov (d + 3) 128 (115, [(10, .int v56), (9, .int v51), (6, .int v46), (8, .int v35), (7, .int v29), (5, .ref pt5), (0, .ref 1), (1, .ref 63), (2, .int x2), (3, .int x3), (4, .int x4)], [], hh70) _
    refine xi_iload (pc' := 117) (x := v56) kc_128_115 rfl rfl ?_
    refine xi_istore (pc' := 119) (lv' := [(6, .int v56), (10, .int v56), (9, .int v51), (8, .int v35), (7, .int v29), (5, .ref pt5), (0, .ref 1), (1, .ref 63), (2, .int x2), (3, .int x3), (4, .int x4)]) kc_128_117 rfl rfl (xm_lt ml_128 rfl) ?_
    refine xi_aload_n (pc' := 120) (x := 63) kc_128_119 rfl rfl ?_
    refine xp_63 K72.1 (fun u73 u74 bu73 bu74 A75 => ?_)
    refine xi_getfield (pc' := 123) (v := .ref 64) kc_128_120 rfl rfl rfl A75 rfl ?_
    refine xi_iload_n (pc' := 124) (x := x2) kc_128_123 rfl rfl ?_
    refine xi_iload (pc' := 126) (x := v56) kc_128_124 rfl rfl ?_
    refine xcps4 (xk_arr K72.1 xD_64) (fun y76 A76 hy76 ry76 => ?_)
    refine xcps4 (xj_set (v := v56) hy76 ry76 x2 (by first | omega | decide) (by first | omega | decide)) (fun y77 s77 hy77 ry77 => ?_)
    refine xi_iastore (pc' := 127) (x' := y77) kc_128_126 rfl A76 rfl (xi_in (by omega) (by rw [hy76]; omega)) s77 (fun hh77 eh77 => ?_)
    have K78 := xk_pa K72 (xk_wa rfl) xD_64 hy77 ry77 eh77
    refine xi_return kc_128_127 mr_128 ?_
    exact kk hh77 K78
set_option maxHeartbeats 4000000 in
theorem mt_133_0 {J : xe_J} {ov : List (List Int32)} (hJ : ∀ d mj as h, mj ≠ xe_loff → J d mj as h = none) (hov1 : ov[1]? = some [10, 0, 0, 0, 0, 0]) (hov2 : ov[2]? = some [99, 30, 50, 50, 1, 99999]) {d : Nat} {Q : Option Value → xe_H → Prop} {h : xe_H} {p1 : Nat} {x2 : Int32} (T : xt h) (m1 : List.elem p1 xG_cause = true) (b2 : (0 ≤ x2.toInt ∧ x2.toInt ≤ 600)) (kk : (∀ (r : Int32) (h' : xe_H), xk [(0, 9), (115, 1), (83, 0), (29, 0), (31, 0), (33, 0), (35, 0), (37, 0), (39, 0), (41, 0), (43, 0), (45, 0), (47, 0), (49, 0), (51, 0), (125, 0), (66, 8), (115, 18), (71, 0), (132, 0)] h h' → Q (some (.int r)) h')) : xw J ov (d + 1) 133 (0, [(0, .ref 1), (1, .ref p1), (2, .int x2)], [], h) Q := by
  have K : xk [(0, 9), (115, 1), (83, 0), (29, 0), (31, 0), (33, 0), (35, 0), (37, 0), (39, 0), (41, 0), (43, 0), (45, 0), (47, 0), (49, 0), (51, 0), (125, 0), (66, 8), (115, 18), (71, 0), (132, 0)] h h := xk_re T
  refine xi_aload_n (pc' := 1) (x := p1) kc_133_0 rfl rfl ?_
  obtain ⟨u1, u2, u3, u4, bu1, bu2, bu3, bu4, A5⟩ := xg_cause K.1 m1
  refine xi_getfield (pc' := 4) (v := .int u1) kc_133_1 rfl rfl rfl A5 rfl ?_
  by_cases c6 : u1.toInt = 0
  · refine xi_tsi (pc' := 32) (z := 0) kc_133_4 (by omega) rfl (by decide) ?_
    refine xi_aload_n (pc' := 33) (x := p1) kc_133_32 rfl rfl ?_
    refine xi_getfield (pc' := 36) (v := .int u2) kc_133_33 rfl rfl rfl A5 rfl ?_
    refine xi_static (mj := 104) (as := [.int u2]) (st1 := []) (lv0 := [(0, .int u2)]) kc_133_36 rfl rfl (Nat.le_of_ble_eq_true rfl) rfl rfl (Nat.le_of_ble_eq_true rfl) (hJ _ _ _ _ (by decide)) (xm_le ml_104 rfl) rfl ?_
    refine xi_iload_n (pc' := 1) (x := u2) kc_104_0 rfl rfl ?_
    by_cases c7 : u2.toInt < 0
    · refine xi_ift (pc' := 14) kc_104_1 rfl (xc_lt_t (X := u2.toInt) (Y := 0) rfl (by decide) (by omega)) ?_
      refine xi_iconst (pc' := 15) (v := 0) kc_104_14 rfl rfl ?_
      refine xi_ireturn kc_104_15 mr_104 rfl ?_
      show xw J ov (d + 1) 133 (39, [(0, .ref 1), (1, .ref p1), (2, .int x2)], [.int 0], h) _
      refine xi_ift (pc' := 73) kc_133_39 rfl rfl ?_
      refine xi_iconst (pc' := 74) (v := 0) kc_133_73 rfl rfl ?_
      refine xi_ireturn kc_133_74 mr_133 rfl ?_
      have zc0 : (0 : Int32).toInt = 0 := by decide
      exact kk 0 h K
    · refine xi_iff (pc' := 4) kc_104_1 rfl (xc_lt_f (X := u2.toInt) (Y := 0) rfl (by decide) (by omega)) ?_
      refine xi_iload_n (pc' := 5) (x := u2) kc_104_4 rfl rfl ?_
      refine xi_bipush (pc' := 7) (v := 12) kc_104_5 rfl rfl ?_
      by_cases c8 : 12 ≤ u2.toInt
      · refine xi_cmt (pc' := 14) kc_104_7 rfl (xc_ge_t (X := u2.toInt) (Y := 12) rfl (by decide) (by omega)) ?_
        refine xi_iconst (pc' := 15) (v := 0) kc_104_14 rfl rfl ?_
        refine xi_ireturn kc_104_15 mr_104 rfl ?_
        show xw J ov (d + 1) 133 (39, [(0, .ref 1), (1, .ref p1), (2, .int x2)], [.int 0], h) _
        refine xi_ift (pc' := 73) kc_133_39 rfl rfl ?_
        refine xi_iconst (pc' := 74) (v := 0) kc_133_73 rfl rfl ?_
        refine xi_ireturn kc_133_74 mr_133 rfl ?_
        have zc0 : (0 : Int32).toInt = 0 := by decide
        exact kk 0 h K
      · refine xi_cmf (pc' := 10) kc_104_7 rfl (xc_ge_f (X := u2.toInt) (Y := 12) rfl (by decide) (by omega)) ?_
        refine xi_iconst (pc' := 11) (v := 1) kc_104_10 rfl rfl ?_
        refine xi_goto (pc' := 15) kc_104_11 rfl ?_
        refine xi_ireturn kc_104_15 mr_104 rfl ?_
        show xw J ov (d + 1) 133 (39, [(0, .ref 1), (1, .ref p1), (2, .int x2)], [.int 1], h) _
        refine xi_iff (pc' := 42) kc_133_39 rfl rfl ?_
        refine xi_aload_n (pc' := 43) (x := 1) kc_133_42 rfl rfl ?_
        refine xp_1 K.1 (fun u9 u10 bu9 bu10 A11 => ?_)
        refine xi_getfield (pc' := 46) (v := .ref 3) kc_133_43 rfl rfl rfl A11 rfl ?_
        refine xi_aload_n (pc' := 47) (x := p1) kc_133_46 rfl rfl ?_
        refine xi_getfield (pc' := 50) (v := .int u2) kc_133_47 rfl rfl rfl A5 rfl ?_
        have A12 := xk_ex K.1 xD_3
        obtain ⟨pt13, ept13, mpt13⟩ := xR_3 (i := u2) (by omega) (by omega)
        refine xj_aaload (pc' := 51) (b := pt13) kc_133_50 rfl A12 rfl (xi_in (n := 12) (by omega) (by omega)) ept13 ?_
        obtain ⟨u14, u15, u16, u17, pt18, bu14, bu15, bu16, bu17, mpt18, A19⟩ := xg_wall K.1 mpt13
        refine xi_getfield (pc' := 54) (v := .int u16) kc_133_51 rfl rfl rfl A19 rfl ?_
        by_cases c20 : u16.toInt = 0
        · refine xi_ift (pc' := 73) kc_133_54 rfl (xc_eq_t (X := u16.toInt) (Y := 0) rfl (by decide) (by omega)) ?_
          refine xi_iconst (pc' := 74) (v := 0) kc_133_73 rfl rfl ?_
          refine xi_ireturn kc_133_74 mr_133 rfl ?_
          have zc0 : (0 : Int32).toInt = 0 := by decide
          exact kk 0 h K
        · refine xi_iff (pc' := 57) kc_133_54 rfl (xc_eq_f (X := u16.toInt) (Y := 0) rfl (by decide) (by omega)) ?_
          refine xi_aload_n (pc' := 58) (x := p1) kc_133_57 rfl rfl ?_
          refine xi_getfield (pc' := 61) (v := .int u3) kc_133_58 rfl rfl rfl A5 rfl ?_
          refine xi_aload_n (pc' := 62) (x := 1) kc_133_61 rfl rfl ?_
          refine xi_getfield (pc' := 65) (v := .ref 8) kc_133_62 rfl rfl rfl A11 rfl ?_
          refine xi_iload_n (pc' := 66) (x := x2) kc_133_65 rfl rfl ?_
          refine xp_8 K.1 (fun u21 bu21 A22 => ?_)
          refine xi_virtual (mj := 99) (as := [.int x2]) (st1 := [.int u3]) (lv0 := [(0, .ref 8), (1, .int x2)]) kc_133_66 rfl rfl rfl rfl rfl A22 (Nat.le_of_ble_eq_true rfl) (hJ _ _ _ _ (by decide)) (xm_le ml_99 rfl) rfl ?_
          refine xi_iload_n (pc' := 1) (x := x2) kc_99_0 rfl rfl ?_
          refine xi_iff (pc' := 4) kc_99_1 rfl (xc_lt_f (X := x2.toInt) (Y := 0) rfl (by decide) (by omega)) ?_
          refine xi_iload_n (pc' := 5) (x := x2) kc_99_4 rfl rfl ?_
          refine xi_aload_n (pc' := 6) (x := 8) kc_99_5 rfl rfl ?_
          refine xi_getfield (pc' := 9) (v := .ref 10) kc_99_6 rfl rfl rfl A22 rfl ?_
          refine xcps4 (xk_arr K.1 xD_10) (fun y23 A23 hy23 ry23 => ?_)
          refine xi_arraylength (pc' := 10) (n := 601) (v := 601) kc_99_9 rfl (xl_lenI (by decide) (by decide) A23 hy23) rfl ?_
          refine xi_cmt (pc' := 20) kc_99_10 rfl (xc_lt_t (X := x2.toInt) (Y := 601) rfl (by decide) (by omega)) ?_
          refine xi_aload_n (pc' := 21) (x := 8) kc_99_20 rfl rfl ?_
          refine xi_getfield (pc' := 24) (v := .ref 10) kc_99_21 rfl rfl rfl A22 rfl ?_
          refine xi_iload_n (pc' := 25) (x := x2) kc_99_24 rfl rfl ?_
          refine xcps4 (xj_get hy23 ry23 (i := x2) (by omega) (by omega)) (fun v24 ev24 bv24 dv24 => ?_)
          refine xi_iaload (pc' := 26) (v := v24) kc_99_25 rfl A23 (by decide) rfl (xi_in (by omega) (by rw [hy23]; omega)) ev24 ?_
          refine xi_ireturn kc_99_26 mr_99 rfl ?_
          show xw J ov (d + 1) 133 (69, [(0, .ref 1), (1, .ref p1), (2, .int x2)], [.int v24, .int u3], h) _
          refine xcps2 (α := Int32) ((u3 : Int32) * v24) (fun v25 ev25 => ?_)
          have rv25 := xc_rng v25
          refine xi_imul (pc' := 70) (v := v25) kc_133_69 rfl ev25 ?_
          refine xi_goto (pc' := 74) kc_133_70 rfl ?_
          refine xi_ireturn kc_133_74 mr_133 rfl ?_
          exact kk v25 h K
  by_cases c26 : u1.toInt = 1
  · refine xi_tsi (pc' := 75) (z := 1) kc_133_4 (by omega) rfl (by decide) ?_
    refine xi_aload_n (pc' := 76) (x := p1) kc_133_75 rfl rfl ?_
    refine xi_getfield (pc' := 79) (v := .int u3) kc_133_76 rfl rfl rfl A5 rfl ?_
    refine xi_ireturn kc_133_79 mr_133 rfl ?_
    exact kk u3 h K
  by_cases c27 : u1.toInt = 2
  · refine xi_tsi (pc' := 80) (z := 2) kc_133_4 (by omega) rfl (by decide) ?_
    refine xi_iload_n (pc' := 81) (x := x2) kc_133_80 rfl rfl ?_
    refine xi_bipush (pc' := 83) (v := 24) kc_133_81 rfl rfl ?_
    refine xi_static (mj := 3) (as := [.int x2, .int 24]) (st1 := []) (lv0 := [(0, .int x2), (1, .int 24)]) kc_133_83 rfl rfl (Nat.le_of_ble_eq_true rfl) rfl rfl (Nat.le_of_ble_eq_true rfl) (hJ _ _ _ _ (by decide)) (xm_le ml_3 rfl) rfl ?_
    refine xi_iload_n (pc' := 1) (x := x2) kc_3_0 rfl rfl ?_
    refine xi_iload_n (pc' := 2) (x := 24) kc_3_1 rfl rfl ?_
    refine xcps2 (α := Int32) (x2 - x2 / 24 * 24) (fun v28 ev28 => ?_)
    have dv28 : v28.toInt = x2.toInt % 24 := by rw [← ev28]; exact xz_reme (X := x2.toInt) (Y := 24) rfl (by decide) (by omega) (by decide)
    have bv28 : 0 ≤ v28.toInt ∧ v28.toInt ≤ 23 := by omega
    refine xi_irem (pc' := 3) (v := v28) kc_3_2 rfl ev28 (by decide) ?_
    refine xi_istore_n (pc' := 4) (lv' := [(2, .int v28), (0, .int x2), (1, .int 24)]) kc_3_3 rfl rfl (xm_lt ml_3 rfl) ?_
    refine xi_iload_n (pc' := 5) (x := x2) kc_3_4 rfl rfl ?_
    refine xi_iload_n (pc' := 6) (x := 24) kc_3_5 rfl rfl ?_
    refine xcps2 (α := Int32) ((x2 : Int32) ^^^ 24) (fun v29 ev29 => ?_)
    have rv29 := xc_rng v29
    have bv29 : 0 ≤ v29.toInt := by rw [← ev29]; exact xz_xor (by first | omega | decide) (by first | omega | decide)
    refine xi_ixor (pc' := 7) (v := v29) kc_3_6 rfl ev29 ?_
    refine xi_ift (pc' := 18) kc_3_7 rfl (xc_ge_t (X := v29.toInt) (Y := 0) rfl (by decide) (by omega)) ?_
    refine xi_iload_n (pc' := 19) (x := v28) kc_3_18 rfl rfl ?_
    refine xi_ireturn kc_3_19 mr_3 rfl ?_
    show xw J ov (d + 1) 133 (86, [(0, .ref 1), (1, .ref p1), (2, .int x2)], [.int v28], h) _
    refine xi_bipush (pc' := 88) (v := 6) kc_133_86 rfl rfl ?_
    by_cases c30 : 6 ≤ v28.toInt
    · refine xi_cmt (pc' := 98) kc_133_88 rfl (xc_ge_t (X := v28.toInt) (Y := 6) rfl (by decide) (by omega)) ?_
      refine xi_iconst (pc' := 99) (v := 0) kc_133_98 rfl rfl ?_
      refine xi_ireturn kc_133_99 mr_133 rfl ?_
      have zc0 : (0 : Int32).toInt = 0 := by decide
      exact kk 0 h K
    · refine xi_cmf (pc' := 91) kc_133_88 rfl (xc_ge_f (X := v28.toInt) (Y := 6) rfl (by decide) (by omega)) ?_
      refine xi_aload_n (pc' := 92) (x := p1) kc_133_91 rfl rfl ?_
      refine xi_getfield (pc' := 95) (v := .int u3) kc_133_92 rfl rfl rfl A5 rfl ?_
      refine xi_goto (pc' := 99) kc_133_95 rfl ?_
      refine xi_ireturn kc_133_99 mr_133 rfl ?_
      exact kk u3 h K
  refine xi_tsd (pc' := 100) kc_133_4 rfl (by omega) ?_
  refine xi_iconst (pc' := 101) (v := 0) kc_133_100 rfl rfl ?_
  refine xi_ireturn kc_133_101 mr_133 rfl ?_
  have zc0 : (0 : Int32).toInt = 0 := by decide
  exact kk 0 h K
set_option maxHeartbeats 4000000 in
theorem lp_132_0 {J : xe_J} {ov : List (List Int32)} (hJ : ∀ d mj as h, mj ≠ xe_loff → J d mj as h = none) (hov1 : ov[1]? = some [10, 0, 0, 0, 0, 0]) (hov2 : ov[2]? = some [99, 30, 50, 50, 1, 99999]) {d : Nat} {Q : Option Value → xe_H → Prop} {hb : xe_H} (kk : (∀ h' : xe_H, xk [(0, 9), (115, 1), (83, 0), (29, 0), (31, 0), (33, 0), (35, 0), (37, 0), (39, 0), (41, 0), (43, 0), (45, 0), (47, 0), (49, 0), (51, 0), (125, 0), (66, 8), (115, 18), (71, 0), (132, 0)] hb h' → Q none h')) : ∀ m : Nat, (∀ (x2 : Int32) (x3 : Int32) (h : xe_H), (0 ≤ x2.toInt ∧ x2.toInt ≤ 600) → (0 ≤ x3.toInt ∧ x3.toInt ≤ 10) → xk [(0, 9), (115, 1), (83, 0), (29, 0), (31, 0), (33, 0), (35, 0), (37, 0), (39, 0), (41, 0), (43, 0), (45, 0), (47, 0), (49, 0), (51, 0), (125, 0), (66, 8), (115, 18), (71, 0), (132, 0)] hb h → (-1) * x3.toInt + 10 < (m : Int) → xw J ov (d + 2) 132 (2, [(0, .ref 1), (1, .ref 63), (2, .int x2), (3, .int x3)], [], h) Q) := by
  intro m
  induction m with
  | zero =>
    intro x2 x3 h b2 b3 K hm; exfalso; omega
  | succ m ih =>
    have i0 := ih
    intro x2 x3 h b2 b3 K hm
    refine xi_iload_n (pc' := 3) (x := x3) kc_132_2 rfl rfl ?_
    refine xi_aload_n (pc' := 4) (x := 1) kc_132_3 rfl rfl ?_
    refine xp_1 K.1 (fun u1 u2 bu1 bu2 A3 => ?_)
    refine xi_getfield (pc' := 7) (v := .int u1) kc_132_4 rfl rfl rfl A3 rfl ?_
    by_cases c4 : u1.toInt ≤ x3.toInt
    · refine xi_cmt (pc' := 69) kc_132_7 rfl (xc_ge_t (X := x3.toInt) (Y := u1.toInt) rfl rfl (by omega)) ?_
      refine xi_return kc_132_69 mr_132 ?_
      exact kk h K
    · refine xi_cmf (pc' := 10) kc_132_7 rfl (xc_ge_f (X := x3.toInt) (Y := u1.toInt) rfl rfl (by omega)) ?_
      refine xi_iload_n (pc' := 11) (x := x3) kc_132_10 rfl rfl ?_
      refine xi_bipush (pc' := 13) (v := 10) kc_132_11 rfl rfl ?_
      refine xi_cmf (pc' := 16) kc_132_13 rfl (xc_ge_f (X := x3.toInt) (Y := 10) rfl (by decide) (by omega)) ?_
      refine xi_aload_n (pc' := 17) (x := 1) kc_132_16 rfl rfl ?_
      refine xi_getfield (pc' := 20) (v := .ref 4) kc_132_17 rfl rfl rfl A3 rfl ?_
      refine xi_iload_n (pc' := 21) (x := x3) kc_132_20 rfl rfl ?_
      have A5 := xk_ex K.1 xD_4
      obtain ⟨pt6, ept6, mpt6⟩ := xR_4 (i := x3) (by omega) (by omega)
      refine xj_aaload (pc' := 22) (b := pt6) kc_132_21 rfl A5 rfl (xi_in (n := 10) (by omega) (by omega)) ept6 ?_
      obtain ⟨u7, u8, u9, u10, bu7, bu8, bu9, bu10, A11⟩ := xg_cause K.1 mpt6
      refine xi_getfield (pc' := 25) (v := .int u7) kc_132_22 rfl rfl rfl A11 rfl ?_
      refine xi_iconst (pc' := 26) (v := 3) kc_132_25 rfl rfl ?_
      by_cases c12 : u7.toInt = 3
      · refine xi_cmt (pc' := 63) kc_132_26 rfl (xc_eq_t (X := u7.toInt) (Y := 3) rfl (by decide) (by omega)) ?_
        refine xcps2 (α := Int32) (x3 + 1) (fun v13 ev13 => ?_)
        have zv13 : v13.toInt = (x3.toInt + 1) := by rw [← ev13]; exact (xz_add (X := x3.toInt) (Y := 1) rfl (by decide) (by omega) (by omega)).trans (by omega)
        refine xi_iinc (pc' := 66) (x := x3) (v := v13) (lv' := [(3, .int v13), (0, .ref 1), (1, .ref 63), (2, .int x2)]) kc_132_63 rfl rfl ev13 rfl (xm_lt ml_132 rfl) ?_
        refine xi_goto (pc' := 2) kc_132_66 rfl ?_
        refine xw_lv (b := [(0, .ref 1), (1, .ref 63), (2, .int x2), (3, .int v13)]) (lvS_cons (lvS_cons (lvS_cons (lvS_cons (lvS_nil (show ([3, 0, 1, 2] : List Nat).Nodup by decide)) rfl) rfl) rfl) rfl) ?_
        exact i0 x2 v13 h (by omega) (by omega) K (by omega)
      · refine xi_cmf (pc' := 29) kc_132_26 rfl (xc_eq_f (X := u7.toInt) (Y := 3) rfl (by decide) (by omega)) ?_
        refine xi_aload_n (pc' := 30) (x := 1) kc_132_29 rfl rfl ?_
        refine xi_aload_n (pc' := 31) (x := 63) kc_132_30 rfl rfl ?_
        refine xi_iload_n (pc' := 32) (x := x3) kc_132_31 rfl rfl ?_
        refine xi_iload_n (pc' := 33) (x := x2) kc_132_32 rfl rfl ?_
        refine xi_virtual (mj := 126) (as := [.ref 63, .int x3, .int x2]) (st1 := []) (lv0 := [(0, .ref 1), (1, .ref 63), (2, .int x3), (3, .int x2)]) kc_132_33 rfl rfl rfl rfl rfl A3 (Nat.le_of_ble_eq_true rfl) (hJ _ _ _ _ (by decide)) (xm_le ml_126 rfl) rfl ?_
        refine mt_126_0 hJ hov1 hov2 (d := d) (x2 := x3) (x3 := x2) K.1 (by first | omega | decide) (by first | omega | decide) (fun r14 hh15 br14 K16 => ?_)
        have K17 := xk_tr K K16 rfl
        show xw J ov (d + 2) 132 (36, [(0, .ref 1), (1, .ref 63), (2, .int x2), (3, .int x3)], [.int r14], hh15) _
        by_cases c18 : r14.toInt = 0
        · refine xi_ift (pc' := 63) kc_132_36 rfl (xc_eq_t (X := r14.toInt) (Y := 0) rfl (by decide) (by omega)) ?_
          refine xcps2 (α := Int32) (x3 + 1) (fun v19 ev19 => ?_)
          have zv19 : v19.toInt = (x3.toInt + 1) := by rw [← ev19]; exact (xz_add (X := x3.toInt) (Y := 1) rfl (by decide) (by omega) (by omega)).trans (by omega)
          refine xi_iinc (pc' := 66) (x := x3) (v := v19) (lv' := [(3, .int v19), (0, .ref 1), (1, .ref 63), (2, .int x2)]) kc_132_63 rfl rfl ev19 rfl (xm_lt ml_132 rfl) ?_
          refine xi_goto (pc' := 2) kc_132_66 rfl ?_
          refine xw_lv (b := [(0, .ref 1), (1, .ref 63), (2, .int x2), (3, .int v19)]) (lvS_cons (lvS_cons (lvS_cons (lvS_cons (lvS_nil (show ([3, 0, 1, 2] : List Nat).Nodup by decide)) rfl) rfl) rfl) rfl) ?_
          exact i0 x2 v19 hh15 (by omega) (by omega) K17 (by omega)
        · refine xi_iff (pc' := 39) kc_132_36 rfl (xc_eq_f (X := r14.toInt) (Y := 0) rfl (by decide) (by omega)) ?_
          refine xi_aload_n (pc' := 40) (x := 63) kc_132_39 rfl rfl ?_
          refine xi_aload_n (pc' := 41) (x := 1) kc_132_40 rfl rfl ?_
          refine xp_1 K17.1 (fun u20 u21 bu20 bu21 A22 => ?_)
          refine xi_getfield (pc' := 44) (v := .ref 4) kc_132_41 rfl rfl rfl A22 rfl ?_
          refine xi_iload_n (pc' := 45) (x := x3) kc_132_44 rfl rfl ?_
          have A23 := xk_ex K17.1 xD_4
          refine xj_aaload (pc' := 46) (b := pt6) kc_132_45 rfl A23 rfl (xi_in (n := 10) (by omega) (by omega)) ept6 ?_
          obtain ⟨u24, u25, u26, u27, bu24, bu25, bu26, bu27, A28⟩ := xg_cause K17.1 mpt6
          refine xi_getfield (pc' := 49) (v := .int u25) kc_132_46 rfl rfl rfl A28 rfl ?_
          refine xi_aload_n (pc' := 50) (x := 1) kc_132_49 rfl rfl ?_
          refine xi_aload_n (pc' := 51) (x := 1) kc_132_50 rfl rfl ?_
          refine xi_getfield (pc' := 54) (v := .ref 4) kc_132_51 rfl rfl rfl A22 rfl ?_
          refine xi_iload_n (pc' := 55) (x := x3) kc_132_54 rfl rfl ?_
          refine xj_aaload (pc' := 56) (b := pt6) kc_132_55 rfl A23 rfl (xi_in (n := 10) (by omega) (by omega)) ept6 ?_
          refine xi_iload_n (pc' := 57) (x := x2) kc_132_56 rfl rfl ?_
          refine xi_virtual (mj := 133) (as := [.ref pt6, .int x2]) (st1 := [.int u25, .ref 63]) (lv0 := [(0, .ref 1), (1, .ref pt6), (2, .int x2)]) kc_132_57 rfl rfl rfl rfl rfl A22 (Nat.le_of_ble_eq_true rfl) (hJ _ _ _ _ (by decide)) (xm_le ml_133 rfl) rfl ?_
          refine mt_133_0 hJ hov1 hov2 (d := d) (p1 := pt6) (x2 := x2) K17.1 mpt6 (by first | omega | decide) (fun r29 hh30 K31 => ?_)
          have br29 := xc_rng r29
          have K32 := xk_tr K17 K31 rfl
          show xw J ov (d + 2) 132 (60, [(0, .ref 1), (1, .ref 63), (2, .int x2), (3, .int x3)], [.int r29, .int u25, .ref 63], hh30) _
          refine xp_63 K32.1 (fun u33 u34 bu33 bu34 A35 => ?_)
          refine xi_virtual (mj := 131) (as := [.int u25, .int r29]) (st1 := []) (lv0 := [(0, .ref 63), (1, .int u25), (2, .int r29)]) kc_132_60 rfl rfl rfl rfl rfl A35 (Nat.le_of_ble_eq_true rfl) (hJ _ _ _ _ (by decide)) (xm_le ml_131 rfl) rfl ?_
          refine mt_131_0 hJ hov1 hov2 (d := d) (x1 := u25) (x2 := r29) K32.1 (fun hh37 K38 => ?_)
          have K39 := xk_tr K32 K38 rfl
          show xw J ov (d + 2) 132 (63, [(0, .ref 1), (1, .ref 63), (2, .int x2), (3, .int x3)], [], hh37) _
          refine xcps2 (α := Int32) (x3 + 1) (fun v40 ev40 => ?_)
          have zv40 : v40.toInt = (x3.toInt + 1) := by rw [← ev40]; exact (xz_add (X := x3.toInt) (Y := 1) rfl (by decide) (by omega) (by omega)).trans (by omega)
          refine xi_iinc (pc' := 66) (x := x3) (v := v40) (lv' := [(3, .int v40), (0, .ref 1), (1, .ref 63), (2, .int x2)]) kc_132_63 rfl rfl ev40 rfl (xm_lt ml_132 rfl) ?_
          refine xi_goto (pc' := 2) kc_132_66 rfl ?_
          refine xw_lv (b := [(0, .ref 1), (1, .ref 63), (2, .int x2), (3, .int v40)]) (lvS_cons (lvS_cons (lvS_cons (lvS_cons (lvS_nil (show ([3, 0, 1, 2] : List Nat).Nodup by decide)) rfl) rfl) rfl) rfl) ?_
          exact i0 x2 v40 hh37 (by omega) (by omega) K39 (by omega)
set_option maxHeartbeats 4000000 in
theorem mt_132_0 {J : xe_J} {ov : List (List Int32)} (hJ : ∀ d mj as h, mj ≠ xe_loff → J d mj as h = none) (hov1 : ov[1]? = some [10, 0, 0, 0, 0, 0]) (hov2 : ov[2]? = some [99, 30, 50, 50, 1, 99999]) {d : Nat} {Q : Option Value → xe_H → Prop} {h : xe_H} {x2 : Int32} (T : xt h) (b2 : (0 ≤ x2.toInt ∧ x2.toInt ≤ 600)) (kk : (∀ h' : xe_H, xk [(0, 9), (115, 1), (83, 0), (29, 0), (31, 0), (33, 0), (35, 0), (37, 0), (39, 0), (41, 0), (43, 0), (45, 0), (47, 0), (49, 0), (51, 0), (125, 0), (66, 8), (115, 18), (71, 0), (132, 0)] h h' → Q none h')) : xw J ov (d + 2) 132 (0, [(0, .ref 1), (1, .ref 63), (2, .int x2)], [], h) Q := by
  have K : xk [(0, 9), (115, 1), (83, 0), (29, 0), (31, 0), (33, 0), (35, 0), (37, 0), (39, 0), (41, 0), (43, 0), (45, 0), (47, 0), (49, 0), (51, 0), (125, 0), (66, 8), (115, 18), (71, 0), (132, 0)] h h := xk_re T
  refine xi_iconst (pc' := 1) (v := 0) kc_132_0 rfl rfl ?_
  refine xi_istore_n (pc' := 2) (lv' := [(3, .int 0), (0, .ref 1), (1, .ref 63), (2, .int x2)]) kc_132_1 rfl rfl (xm_lt ml_132 rfl) ?_
  have zc0 : (0 : Int32).toInt = 0 := by decide
  refine xw_lv (b := [(0, .ref 1), (1, .ref 63), (2, .int x2), (3, .int 0)]) (lvS_cons (lvS_cons (lvS_cons (lvS_cons (lvS_nil (show ([3, 0, 1, 2] : List Nat).Nodup by decide)) rfl) rfl) rfl) rfl) ?_
  exact (lp_132_0 hJ hov1 hov2 (d := d) (hb := h) (fun h9 K9 => kk h9 (xk_tr K K9 rfl)) 11) x2 0 h (by omega) (by omega) (xk_re K.1) (by omega)
set_option maxHeartbeats 4000000 in
theorem lp_134_0 {J : xe_J} {ov : List (List Int32)} (hJ : ∀ d mj as h, mj ≠ xe_loff → J d mj as h = none) (hov1 : ov[1]? = some [10, 0, 0, 0, 0, 0]) (hov2 : ov[2]? = some [99, 30, 50, 50, 1, 99999]) {d : Nat} {Q : Option Value → xe_H → Prop} {hb : xe_H} (kk : (∀ h' : xe_H, xk [(0, 9), (115, 1), (83, 0), (29, 0), (31, 0), (33, 0), (35, 0), (37, 0), (39, 0), (41, 0), (43, 0), (45, 0), (47, 0), (49, 0), (51, 0), (125, 0), (66, 8), (115, 18), (71, 0), (132, 0)] hb h' → Q none h')) : ∀ m : Nat, (∀ (x2 : Int32) (h : xe_H), (0 ≤ x2.toInt ∧ x2.toInt ≤ 12) → xk [(0, 9), (115, 1), (83, 0), (29, 0), (31, 0), (33, 0), (35, 0), (37, 0), (39, 0), (41, 0), (43, 0), (45, 0), (47, 0), (49, 0), (51, 0), (125, 0), (66, 8), (115, 18), (71, 0), (132, 0)] hb h → (-1) * x2.toInt + 12 < (m : Int) → xw J ov (d + 1) 134 (2, [(0, .ref 1), (1, .ref 63), (2, .int x2)], [], h) Q) := by
  intro m
  induction m with
  | zero =>
    intro x2 h b2 K hm; exfalso; omega
  | succ m ih =>
    have i0 := ih
    intro x2 h b2 K hm
    refine xi_iload_n (pc' := 3) (x := x2) kc_134_2 rfl rfl ?_
    refine xi_bipush (pc' := 5) (v := 12) kc_134_3 rfl rfl ?_
    by_cases c1 : 12 ≤ x2.toInt
    · refine xi_cmt (pc' := 45) kc_134_5 rfl (xc_ge_t (X := x2.toInt) (Y := 12) rfl (by decide) (by omega)) ?_
      refine xi_return kc_134_45 mr_134 ?_
      exact kk h K
    · refine xi_cmf (pc' := 8) kc_134_5 rfl (xc_ge_f (X := x2.toInt) (Y := 12) rfl (by decide) (by omega)) ?_
      refine xi_aload_n (pc' := 9) (x := 63) kc_134_8 rfl rfl ?_
      refine xp_63 K.1 (fun u2 u3 bu2 bu3 A4 => ?_)
      refine xi_getfield (pc' := 12) (v := .ref 65) kc_134_9 rfl rfl rfl A4 rfl ?_
      refine xi_iload_n (pc' := 13) (x := x2) kc_134_12 rfl rfl ?_
      refine xcps4 (xk_arr K.1 xD_65) (fun y5 A5 hy5 ry5 => ?_)
      refine xcps4 (xj_get hy5 ry5 (i := x2) (by omega) (by omega)) (fun v6 ev6 bv6 dv6 => ?_)
      refine xi_iaload (pc' := 14) (v := v6) kc_134_13 rfl A5 (by decide) rfl (xi_in (by omega) (by rw [hy5]; omega)) ev6 ?_
      refine xi_istore_n (pc' := 15) (lv' := [(3, .int v6), (0, .ref 1), (1, .ref 63), (2, .int x2)]) kc_134_14 rfl rfl (xm_lt ml_134 rfl) ?_
      refine xi_iload_n (pc' := 16) (x := v6) kc_134_15 rfl rfl ?_
      by_cases c7 : v6.toInt ≤ 0
      · refine xi_ift (pc' := 39) kc_134_16 rfl (xc_le_t (X := v6.toInt) (Y := 0) rfl (by decide) (by omega)) ?_
        refine xcps2 (α := Int32) (x2 + 1) (fun v8 ev8 => ?_)
        have zv8 : v8.toInt = (x2.toInt + 1) := by rw [← ev8]; exact (xz_add (X := x2.toInt) (Y := 1) rfl (by decide) (by omega) (by omega)).trans (by omega)
        refine xi_iinc (pc' := 42) (x := x2) (v := v8) (lv' := [(2, .int v8), (3, .int v6), (0, .ref 1), (1, .ref 63)]) kc_134_39 rfl rfl ev8 rfl (xm_lt ml_134 rfl) ?_
        refine xi_goto (pc' := 2) kc_134_42 rfl ?_
        refine xw_lv (b := [(0, .ref 1), (1, .ref 63), (2, .int v8)]) (lvS_cons (lvS_cons (lvS_cons (lvS_nil (show ([2, 3, 0, 1] : List Nat).Nodup by decide)) rfl) rfl) rfl) ?_
        exact i0 v8 h (by omega) K (by omega)
      · refine xi_iff (pc' := 19) kc_134_16 rfl (xc_le_f (X := v6.toInt) (Y := 0) rfl (by decide) (by omega)) ?_
        refine xi_aload_n (pc' := 20) (x := 63) kc_134_19 rfl rfl ?_
        refine xi_getfield (pc' := 23) (v := .ref 65) kc_134_20 rfl rfl rfl A4 rfl ?_
        refine xi_iload_n (pc' := 24) (x := x2) kc_134_23 rfl rfl ?_
        refine xi_iload_n (pc' := 25) (x := v6) kc_134_24 rfl rfl ?_
        refine xi_iload_n (pc' := 26) (x := v6) kc_134_25 rfl rfl ?_
        refine xi_aload_n (pc' := 27) (x := 1) kc_134_26 rfl rfl ?_
        refine xp_1 K.1 (fun u9 u10 bu9 bu10 A11 => ?_)
        refine xi_getfield (pc' := 30) (v := .int u10) kc_134_27 rfl rfl rfl A11 rfl ?_
        refine xcps2 (α := Int32) ((v6 : Int32) * u10) (fun v12 ev12 => ?_)
        have rv12 := xc_rng v12
        refine xi_imul (pc' := 31) (v := v12) kc_134_30 rfl ev12 ?_
        refine xi_bipush (pc' := 33) (v := 99) kc_134_31 rfl rfl ?_
        refine xcps2 (α := Int32) ((v12 : Int32) + 99) (fun v13 ev13 => ?_)
        have rv13 := xc_rng v13
        refine xi_iadd (pc' := 34) (v := v13) kc_134_33 rfl ev13 ?_
        refine xi_bipush (pc' := 36) (v := 100) kc_134_34 rfl rfl ?_
        refine xcps2 (α := Int32) (v13 / 100) (fun v14 ev14 => ?_)
        have dv14 : 100 * v14.toInt ≤ v13.toInt + 99 ∧ v13.toInt ≤ 100 * v14.toInt + 99 := by rw [← ev14]; exact xz_div (X := v13.toInt) (Y := 100) rfl (by decide) (by decide)
        have bv14 : -21474837 ≤ v14.toInt ∧ v14.toInt ≤ 21474837 := by omega
        refine xi_idiv (pc' := 37) (v := v14) kc_134_36 rfl ev14 (by decide) ?_
        refine xcps2 (α := Int32) ((v6 : Int32) - v14) (fun v15 ev15 => ?_)
        have rv15 := xc_rng v15
        refine xi_isub (pc' := 38) (v := v15) kc_134_37 rfl ev15 ?_
        refine xcps4 (xj_set (v := v15) hy5 ry5 x2 (by first | omega | decide) (by first | omega | decide)) (fun y16 s16 hy16 ry16 => ?_)
        refine xi_iastore (pc' := 39) (x' := y16) kc_134_38 rfl A5 rfl (xi_in (by omega) (by rw [hy5]; omega)) s16 (fun hh16 eh16 => ?_)
        have K17 := xk_pa K (xk_wa rfl) xD_65 hy16 ry16 eh16
        refine xcps2 (α := Int32) (x2 + 1) (fun v18 ev18 => ?_)
        have zv18 : v18.toInt = (x2.toInt + 1) := by rw [← ev18]; exact (xz_add (X := x2.toInt) (Y := 1) rfl (by decide) (by omega) (by omega)).trans (by omega)
        refine xi_iinc (pc' := 42) (x := x2) (v := v18) (lv' := [(2, .int v18), (3, .int v6), (0, .ref 1), (1, .ref 63)]) kc_134_39 rfl rfl ev18 rfl (xm_lt ml_134 rfl) ?_
        refine xi_goto (pc' := 2) kc_134_42 rfl ?_
        refine xw_lv (b := [(0, .ref 1), (1, .ref 63), (2, .int v18)]) (lvS_cons (lvS_cons (lvS_cons (lvS_nil (show ([2, 3, 0, 1] : List Nat).Nodup by decide)) rfl) rfl) rfl) ?_
        exact i0 v18 hh16 (by omega) K17 (by omega)
set_option maxHeartbeats 4000000 in
theorem mt_134_0 {J : xe_J} {ov : List (List Int32)} (hJ : ∀ d mj as h, mj ≠ xe_loff → J d mj as h = none) (hov1 : ov[1]? = some [10, 0, 0, 0, 0, 0]) (hov2 : ov[2]? = some [99, 30, 50, 50, 1, 99999]) {d : Nat} {Q : Option Value → xe_H → Prop} {h : xe_H} (T : xt h) (kk : (∀ h' : xe_H, xk [(0, 9), (115, 1), (83, 0), (29, 0), (31, 0), (33, 0), (35, 0), (37, 0), (39, 0), (41, 0), (43, 0), (45, 0), (47, 0), (49, 0), (51, 0), (125, 0), (66, 8), (115, 18), (71, 0), (132, 0)] h h' → Q none h')) : xw J ov (d + 1) 134 (0, [(0, .ref 1), (1, .ref 63)], [], h) Q := by
  have K : xk [(0, 9), (115, 1), (83, 0), (29, 0), (31, 0), (33, 0), (35, 0), (37, 0), (39, 0), (41, 0), (43, 0), (45, 0), (47, 0), (49, 0), (51, 0), (125, 0), (66, 8), (115, 18), (71, 0), (132, 0)] h h := xk_re T
  refine xi_iconst (pc' := 1) (v := 0) kc_134_0 rfl rfl ?_
  refine xi_istore_n (pc' := 2) (lv' := [(2, .int 0), (0, .ref 1), (1, .ref 63)]) kc_134_1 rfl rfl (xm_lt ml_134 rfl) ?_
  have zc0 : (0 : Int32).toInt = 0 := by decide
  refine xw_lv (b := [(0, .ref 1), (1, .ref 63), (2, .int 0)]) (lvS_cons (lvS_cons (lvS_cons (lvS_nil (show ([2, 0, 1] : List Nat).Nodup by decide)) rfl) rfl) rfl) ?_
  exact (lp_134_0 hJ hov1 hov2 (d := d) (hb := h) (fun h9 K9 => kk h9 (xk_tr K K9 rfl)) 13) 0 h (by omega) (xk_re K.1) (by omega)
set_option maxHeartbeats 4000000 in
theorem lp_124_0 {J : xe_J} {ov : List (List Int32)} (hJ : ∀ d mj as h, mj ≠ xe_loff → J d mj as h = none) (hov1 : ov[1]? = some [10, 0, 0, 0, 0, 0]) (hov2 : ov[2]? = some [99, 30, 50, 50, 1, 99999]) {d : Nat} {Q : Option Value → xe_H → Prop} {hb : xe_H} (kk : (∀ h' : xe_H, xk [(0, 9), (115, 1), (83, 0), (29, 0), (31, 0), (33, 0), (35, 0), (37, 0), (39, 0), (41, 0), (43, 0), (45, 0), (47, 0), (49, 0), (51, 0), (125, 0), (66, 8), (115, 18), (71, 0), (132, 0)] hb h' → Q none h')) : ∀ m : Nat, (∀ (x2 : Int32) (x3 : Int32) (x4 : Int32) (h : xe_H), (0 ≤ x2.toInt ∧ x2.toInt ≤ 600) → (0 ≤ x4.toInt ∧ x4.toInt ≤ 6) → xk [(0, 9), (115, 1), (83, 0), (29, 0), (31, 0), (33, 0), (35, 0), (37, 0), (39, 0), (41, 0), (43, 0), (45, 0), (47, 0), (49, 0), (51, 0), (125, 0), (66, 8), (115, 18), (71, 0), (132, 0)] hb h → (-1) * x4.toInt + 6 < (m : Int) → xw J ov (d + 4) 124 (18, [(0, .ref 1), (1, .ref 63), (2, .int x2), (3, .int x3), (4, .int x4)], [], h) Q) := by
  intro m
  induction m with
  | zero =>
    intro x2 x3 x4 h b2 b4 K hm; have rx3 := xc_rng x3; exfalso; omega
  | succ m ih =>
    have i0 := ih
    intro x2 x3 x4 h b2 b4 K hm
    have rx3 := xc_rng x3
    refine xi_iload (pc' := 20) (x := x4) kc_124_18 rfl rfl ?_
    refine xi_bipush (pc' := 22) (v := 6) kc_124_20 rfl rfl ?_
    by_cases c1 : 6 ≤ x4.toInt
    · refine xi_cmt (pc' := 52) kc_124_22 rfl (xc_ge_t (X := x4.toInt) (Y := 6) rfl (by decide) (by omega)) ?_
      refine xi_aload_n (pc' := 53) (x := 1) kc_124_52 rfl rfl ?_
      refine xi_aload_n (pc' := 54) (x := 63) kc_124_53 rfl rfl ?_
      refine xi_iload_n (pc' := 55) (x := x2) kc_124_54 rfl rfl ?_
      refine xp_1 K.1 (fun u2 u3 bu2 bu3 A4 => ?_)
      refine xi_virtual (mj := 132) (as := [.ref 63, .int x2]) (st1 := []) (lv0 := [(0, .ref 1), (1, .ref 63), (2, .int x2)]) kc_124_55 rfl rfl rfl rfl rfl A4 (Nat.le_of_ble_eq_true rfl) (hJ _ _ _ _ (by decide)) (xm_le ml_132 rfl) rfl ?_
      refine mt_132_0 hJ hov1 hov2 (d := d + 1) (x2 := x2) K.1 (by first | omega | decide) (fun hh6 K7 => ?_)
      have K8 := xk_tr K K7 rfl
      show xw J ov (d + 4) 124 (58, [(0, .ref 1), (1, .ref 63), (2, .int x2), (3, .int x3), (4, .int x4)], [], hh6) _
      refine xi_aload_n (pc' := 59) (x := 1) kc_124_58 rfl rfl ?_
      refine xi_aload_n (pc' := 60) (x := 63) kc_124_59 rfl rfl ?_
      refine xp_1 K8.1 (fun u9 u10 bu9 bu10 A11 => ?_)
      refine xi_virtual (mj := 134) (as := [.ref 63]) (st1 := []) (lv0 := [(0, .ref 1), (1, .ref 63)]) kc_124_60 rfl rfl rfl rfl rfl A11 (Nat.le_of_ble_eq_true rfl) (hJ _ _ _ _ (by decide)) (xm_le ml_134 rfl) rfl ?_
      refine mt_134_0 hJ hov1 hov2 (d := d + 2)  K8.1 (fun hh13 K14 => ?_)
      have K15 := xk_tr K8 K14 rfl
      show xw J ov (d + 4) 124 (63, [(0, .ref 1), (1, .ref 63), (2, .int x2), (3, .int x3), (4, .int x4)], [], hh13) _
      refine xi_return kc_124_63 mr_124 ?_
      exact kk hh13 K15
    · refine xi_cmf (pc' := 25) kc_124_22 rfl (xc_ge_f (X := x4.toInt) (Y := 6) rfl (by decide) (by omega)) ?_
      refine xi_aload_n (pc' := 26) (x := 63) kc_124_25 rfl rfl ?_
      refine xp_63 K.1 (fun u16 u17 bu16 bu17 A18 => ?_)
      refine xi_getfield (pc' := 29) (v := .int u17) kc_124_26 rfl rfl rfl A18 rfl ?_
      refine xi_iload (pc' := 31) (x := x4) kc_124_29 rfl rfl ?_
      refine xcps2 (α := Int32) ((u17 : Int32) >>> (x4 &&& 31)) (fun v19 ev19 => ?_)
      have rv19 := xc_rng v19
      refine xi_ishr (pc' := 32) (v := v19) kc_124_31 rfl ev19 ?_
      refine xi_iconst (pc' := 33) (v := 1) kc_124_32 rfl rfl ?_
      refine xcps2 (α := Int32) ((v19 : Int32) &&& 1) (fun v20 ev20 => ?_)
      have rv20 := xc_rng v20
      refine xi_iand (pc' := 34) (v := v20) kc_124_33 rfl ev20 ?_
      by_cases c21 : v20.toInt = 0
      · refine xi_ift (pc' := 46) kc_124_34 rfl (xc_eq_t (X := v20.toInt) (Y := 0) rfl (by decide) (by omega)) ?_
        refine xcps2 (α := Int32) (x4 + 1) (fun v22 ev22 => ?_)
        have zv22 : v22.toInt = (x4.toInt + 1) := by rw [← ev22]; exact (xz_add (X := x4.toInt) (Y := 1) rfl (by decide) (by omega) (by omega)).trans (by omega)
        refine xi_iinc (pc' := 49) (x := x4) (v := v22) (lv' := [(4, .int v22), (0, .ref 1), (1, .ref 63), (2, .int x2), (3, .int x3)]) kc_124_46 rfl rfl ev22 rfl (xm_lt ml_124 rfl) ?_
        refine xi_goto (pc' := 18) kc_124_49 rfl ?_
        refine xw_lv (b := [(0, .ref 1), (1, .ref 63), (2, .int x2), (3, .int x3), (4, .int v22)]) (lvS_cons (lvS_cons (lvS_cons (lvS_cons (lvS_cons (lvS_nil (show ([4, 0, 1, 2, 3] : List Nat).Nodup by decide)) rfl) rfl) rfl) rfl) rfl) ?_
        exact i0 x2 x3 v22 h (by omega) (by omega) K (by omega)
      · refine xi_iff (pc' := 37) kc_124_34 rfl (xc_eq_f (X := v20.toInt) (Y := 0) rfl (by decide) (by omega)) ?_
        refine xi_aload_n (pc' := 38) (x := 1) kc_124_37 rfl rfl ?_
        refine xi_aload_n (pc' := 39) (x := 63) kc_124_38 rfl rfl ?_
        refine xi_iload (pc' := 41) (x := x4) kc_124_39 rfl rfl ?_
        refine xi_iload_n (pc' := 42) (x := x2) kc_124_41 rfl rfl ?_
        refine xi_iload_n (pc' := 43) (x := x3) kc_124_42 rfl rfl ?_
        refine xp_1 K.1 (fun u23 u24 bu23 bu24 A25 => ?_)
        refine xi_virtual (mj := 128) (as := [.ref 63, .int x4, .int x2, .int x3]) (st1 := []) (lv0 := [(0, .ref 1), (1, .ref 63), (2, .int x4), (3, .int x2), (4, .int x3)]) kc_124_43 rfl rfl rfl rfl rfl A25 (Nat.le_of_ble_eq_true rfl) (hJ _ _ _ _ (by decide)) (xm_le ml_128 rfl) rfl ?_
        refine mt_128_0 hJ hov1 hov2 (d := d) (x2 := x4) (x3 := x2) (x4 := x3) K.1 (by first | omega | decide) (by first | omega | decide) (fun hh27 K28 => ?_)
        have K29 := xk_tr K K28 rfl
        show xw J ov (d + 4) 124 (46, [(0, .ref 1), (1, .ref 63), (2, .int x2), (3, .int x3), (4, .int x4)], [], hh27) _
        refine xcps2 (α := Int32) (x4 + 1) (fun v30 ev30 => ?_)
        have zv30 : v30.toInt = (x4.toInt + 1) := by rw [← ev30]; exact (xz_add (X := x4.toInt) (Y := 1) rfl (by decide) (by omega) (by omega)).trans (by omega)
        refine xi_iinc (pc' := 49) (x := x4) (v := v30) (lv' := [(4, .int v30), (0, .ref 1), (1, .ref 63), (2, .int x2), (3, .int x3)]) kc_124_46 rfl rfl ev30 rfl (xm_lt ml_124 rfl) ?_
        refine xi_goto (pc' := 18) kc_124_49 rfl ?_
        refine xw_lv (b := [(0, .ref 1), (1, .ref 63), (2, .int x2), (3, .int x3), (4, .int v30)]) (lvS_cons (lvS_cons (lvS_cons (lvS_cons (lvS_cons (lvS_nil (show ([4, 0, 1, 2, 3] : List Nat).Nodup by decide)) rfl) rfl) rfl) rfl) rfl) ?_
        exact i0 x2 x3 v30 hh27 (by omega) (by omega) K29 (by omega)
set_option maxHeartbeats 4000000 in
theorem mt_124_0 {J : xe_J} {ov : List (List Int32)} (hJ : ∀ d mj as h, mj ≠ xe_loff → J d mj as h = none) (hov1 : ov[1]? = some [10, 0, 0, 0, 0, 0]) (hov2 : ov[2]? = some [99, 30, 50, 50, 1, 99999]) {d : Nat} {Q : Option Value → xe_H → Prop} {h : xe_H} {x2 : Int32} (T : xt h) (b2 : (0 ≤ x2.toInt ∧ x2.toInt ≤ 600)) (kk : (∀ h' : xe_H, xk [(0, 9), (115, 1), (83, 0), (29, 0), (31, 0), (33, 0), (35, 0), (37, 0), (39, 0), (41, 0), (43, 0), (45, 0), (47, 0), (49, 0), (51, 0), (125, 0), (66, 8), (115, 18), (71, 0), (132, 0)] h h' → Q none h')) : xw J ov (d + 4) 124 (0, [(0, .ref 1), (1, .ref 63), (2, .int x2)], [], h) Q := by
  have K : xk [(0, 9), (115, 1), (83, 0), (29, 0), (31, 0), (33, 0), (35, 0), (37, 0), (39, 0), (41, 0), (43, 0), (45, 0), (47, 0), (49, 0), (51, 0), (125, 0), (66, 8), (115, 18), (71, 0), (132, 0)] h h := xk_re T
  refine xi_aload_n (pc' := 1) (x := 1) kc_124_0 rfl rfl ?_
  refine xp_1 K.1 (fun u1 u2 bu1 bu2 A3 => ?_)
  refine xi_getfield (pc' := 4) (v := .ref 5) kc_124_1 rfl rfl rfl A3 rfl ?_
  refine xi_iload_n (pc' := 5) (x := x2) kc_124_4 rfl rfl ?_
  refine xp_5 K.1 (fun u4 bu4 A5 => ?_)
  refine xi_virtual (mj := 99) (as := [.int x2]) (st1 := []) (lv0 := [(0, .ref 5), (1, .int x2)]) kc_124_5 rfl rfl rfl rfl rfl A5 (Nat.le_of_ble_eq_true rfl) (hJ _ _ _ _ (by decide)) (xm_le ml_99 rfl) rfl ?_
  refine xi_iload_n (pc' := 1) (x := x2) kc_99_0 rfl rfl ?_
  refine xi_iff (pc' := 4) kc_99_1 rfl (xc_lt_f (X := x2.toInt) (Y := 0) rfl (by decide) (by omega)) ?_
  refine xi_iload_n (pc' := 5) (x := x2) kc_99_4 rfl rfl ?_
  refine xi_aload_n (pc' := 6) (x := 5) kc_99_5 rfl rfl ?_
  refine xi_getfield (pc' := 9) (v := .ref 7) kc_99_6 rfl rfl rfl A5 rfl ?_
  refine xcps4 (xk_arr K.1 xD_7) (fun y6 A6 hy6 ry6 => ?_)
  refine xi_arraylength (pc' := 10) (n := 601) (v := 601) kc_99_9 rfl (xl_lenI (by decide) (by decide) A6 hy6) rfl ?_
  refine xi_cmt (pc' := 20) kc_99_10 rfl (xc_lt_t (X := x2.toInt) (Y := 601) rfl (by decide) (by omega)) ?_
  refine xi_aload_n (pc' := 21) (x := 5) kc_99_20 rfl rfl ?_
  refine xi_getfield (pc' := 24) (v := .ref 7) kc_99_21 rfl rfl rfl A5 rfl ?_
  refine xi_iload_n (pc' := 25) (x := x2) kc_99_24 rfl rfl ?_
  refine xcps4 (xj_get hy6 ry6 (i := x2) (by omega) (by omega)) (fun v7 ev7 bv7 dv7 => ?_)
  refine xi_iaload (pc' := 26) (v := v7) kc_99_25 rfl A6 (by decide) rfl (xi_in (by omega) (by rw [hy6]; omega)) ev7 ?_
  refine xi_ireturn kc_99_26 mr_99 rfl ?_
  show xw J ov (d + 4) 124 (8, [(0, .ref 1), (1, .ref 63), (2, .int x2)], [.int v7], h) _
  refine xi_istore_n (pc' := 9) (lv' := [(3, .int v7), (0, .ref 1), (1, .ref 63), (2, .int x2)]) kc_124_8 rfl rfl (xm_lt ml_124 rfl) ?_
  refine xi_aload_n (pc' := 10) (x := 1) kc_124_9 rfl rfl ?_
  refine xi_aload_n (pc' := 11) (x := 63) kc_124_10 rfl rfl ?_
  refine xi_iload_n (pc' := 12) (x := x2) kc_124_11 rfl rfl ?_
  refine xi_virtual (mj := 125) (as := [.ref 63, .int x2]) (st1 := []) (lv0 := [(0, .ref 1), (1, .ref 63), (2, .int x2)]) kc_124_12 rfl rfl rfl rfl rfl A3 (Nat.le_of_ble_eq_true rfl) (hJ _ _ _ _ (by decide)) (xm_le ml_125 rfl) rfl ?_
  refine mt_125_0 hJ hov1 hov2 (d := d + 1) (x2 := x2) K.1 (by first | omega | decide) (fun hh9 K10 => ?_)
  have K11 := xk_tr K K10 rfl
  show xw J ov (d + 4) 124 (15, [(3, .int v7), (0, .ref 1), (1, .ref 63), (2, .int x2)], [], hh9) _
  refine xi_iconst (pc' := 16) (v := 0) kc_124_15 rfl rfl ?_
  refine xi_istore (pc' := 18) (lv' := [(4, .int 0), (3, .int v7), (0, .ref 1), (1, .ref 63), (2, .int x2)]) kc_124_16 rfl rfl (xm_lt ml_124 rfl) ?_
  have zc0 : (0 : Int32).toInt = 0 := by decide
  refine xw_lv (b := [(0, .ref 1), (1, .ref 63), (2, .int x2), (3, .int v7), (4, .int 0)]) (lvS_cons (lvS_cons (lvS_cons (lvS_cons (lvS_cons (lvS_nil (show ([4, 3, 0, 1, 2] : List Nat).Nodup by decide)) rfl) rfl) rfl) rfl) rfl) ?_
  exact (lp_124_0 hJ hov1 hov2 (d := d) (hb := hh9) (fun h9 K9 => kk h9 (xk_tr K11 K9 rfl)) 7) x2 v7 0 hh9 (by omega) (by omega) (xk_re K11.1) (by omega)
set_option maxHeartbeats 4000000 in
theorem lp_135_0 {J : xe_J} {ov : List (List Int32)} (hJ : ∀ d mj as h, mj ≠ xe_loff → J d mj as h = none) (hov1 : ov[1]? = some [10, 0, 0, 0, 0, 0]) (hov2 : ov[2]? = some [99, 30, 50, 50, 1, 99999]) {d : Nat} {Q : Option Value → xe_H → Prop} {hb : xe_H} (kk : (∀ h' : xe_H, xk [(0, 9), (115, 1), (83, 0), (29, 0), (31, 0), (33, 0), (35, 0), (37, 0), (39, 0), (41, 0), (43, 0), (45, 0), (47, 0), (49, 0), (51, 0), (125, 0), (66, 8), (115, 18), (71, 0), (132, 0)] hb h' → Q none h')) : ∀ m : Nat, (∀ (x2 : Int32) (x3 : Int32) (h : xe_H), (0 ≤ x2.toInt ∧ x2.toInt ≤ 599) → (0 ≤ x3.toInt ∧ x3.toInt ≤ 12) → xk [(0, 9), (115, 1), (83, 0), (29, 0), (31, 0), (33, 0), (35, 0), (37, 0), (39, 0), (41, 0), (43, 0), (45, 0), (47, 0), (49, 0), (51, 0), (125, 0), (66, 8), (115, 18), (71, 0), (132, 0)] hb h → (-1) * x3.toInt + 12 < (m : Int) → xw J ov (d + 1) 135 (14, [(0, .ref 1), (1, .ref 63), (2, .int x2), (3, .int x3)], [], h) Q) := by
  intro m
  induction m with
  | zero =>
    intro x2 x3 h b2 b3 K hm; exfalso; omega
  | succ m ih =>
    have i0 := ih
    intro x2 x3 h b2 b3 K hm
    refine xi_iload_n (pc' := 15) (x := x3) kc_135_14 rfl rfl ?_
    refine xi_bipush (pc' := 17) (v := 12) kc_135_15 rfl rfl ?_
    by_cases c1 : 12 ≤ x3.toInt
    · refine xi_cmt (pc' := 69) kc_135_17 rfl (xc_ge_t (X := x3.toInt) (Y := 12) rfl (by decide) (by omega)) ?_
      refine xi_return kc_135_69 mr_135 ?_
      exact kk h K
    · refine xi_cmf (pc' := 20) kc_135_17 rfl (xc_ge_f (X := x3.toInt) (Y := 12) rfl (by decide) (by omega)) ?_
      refine xi_aload_n (pc' := 21) (x := 1) kc_135_20 rfl rfl ?_
      refine xp_1 K.1 (fun u2 u3 bu2 bu3 A4 => ?_)
      refine xi_getfield (pc' := 24) (v := .ref 3) kc_135_21 rfl rfl rfl A4 rfl ?_
      refine xi_iload_n (pc' := 25) (x := x3) kc_135_24 rfl rfl ?_
      have A5 := xk_ex K.1 xD_3
      obtain ⟨pt6, ept6, mpt6⟩ := xR_3 (i := x3) (by omega) (by omega)
      refine xj_aaload (pc' := 26) (b := pt6) kc_135_25 rfl A5 rfl (xi_in (n := 12) (by omega) (by omega)) ept6 ?_
      obtain ⟨u7, u8, u9, u10, pt11, bu7, bu8, bu9, bu10, mpt11, A12⟩ := xg_wall K.1 mpt6
      refine xi_getfield (pc' := 29) (v := .ref pt11) kc_135_26 rfl rfl rfl A12 rfl ?_
      refine xi_iload_n (pc' := 30) (x := x2) kc_135_29 rfl rfl ?_
      refine xi_aload_n (pc' := 31) (x := 63) kc_135_30 rfl rfl ?_
      refine xp_63 K.1 (fun u13 u14 bu13 bu14 A15 => ?_)
      refine xi_getfield (pc' := 34) (v := .ref 65) kc_135_31 rfl rfl rfl A15 rfl ?_
      refine xi_iload_n (pc' := 35) (x := x3) kc_135_34 rfl rfl ?_
      refine xcps4 (xk_arr K.1 xD_65) (fun y16 A16 hy16 ry16 => ?_)
      refine xcps4 (xj_get hy16 ry16 (i := x3) (by omega) (by omega)) (fun v17 ev17 bv17 dv17 => ?_)
      refine xi_iaload (pc' := 36) (v := v17) kc_135_35 rfl A16 (by decide) rfl (xi_in (by omega) (by rw [hy16]; omega)) ev17 ?_
      refine xcps4 (xk_arr K.1 (xGD_wall4 mpt11)) (fun y18 A18 hy18 ry18 => ?_)
      refine xcps4 (xj_set (v := v17) hy18 ry18 x2 (by first | omega | decide) (by first | omega | decide)) (fun y19 s19 hy19 ry19 => ?_)
      refine xi_iastore (pc' := 37) (x' := y19) kc_135_36 rfl A18 rfl (xi_in (by omega) (by rw [hy18]; omega)) s19 (fun hh19 eh19 => ?_)
      have K20 := xk_pa K (xk_ga mpt11 rfl) (xGD_wall4 mpt11) hy19 ry19 eh19
      refine xi_aload_n (pc' := 38) (x := 63) kc_135_37 rfl rfl ?_
      have A21 := ((eh19.2.1 63 (xk_nc mpt11 rfl)).trans A15)
      refine xi_getfield (pc' := 41) (v := .ref 65) kc_135_38 rfl rfl rfl A21 rfl ?_
      refine xi_iload_n (pc' := 42) (x := x3) kc_135_41 rfl rfl ?_
      have A22 := ((eh19.2.1 65 (xk_nc mpt11 rfl)).trans A16)
      refine xi_iaload (pc' := 43) (v := v17) kc_135_42 rfl A22 (by decide) rfl (xi_in (by omega) (by rw [hy16]; omega)) ev17 ?_
      refine xi_bipush (pc' := 45) (v := 50) kc_135_43 rfl rfl ?_
      by_cases c23 : v17.toInt < 50
      · refine xi_cmt (pc' := 63) kc_135_45 rfl (xc_lt_t (X := v17.toInt) (Y := 50) rfl (by decide) (by omega)) ?_
        refine xcps2 (α := Int32) (x3 + 1) (fun v24 ev24 => ?_)
        have zv24 : v24.toInt = (x3.toInt + 1) := by rw [← ev24]; exact (xz_add (X := x3.toInt) (Y := 1) rfl (by decide) (by omega) (by omega)).trans (by omega)
        refine xi_iinc (pc' := 66) (x := x3) (v := v24) (lv' := [(3, .int v24), (0, .ref 1), (1, .ref 63), (2, .int x2)]) kc_135_63 rfl rfl ev24 rfl (xm_lt ml_135 rfl) ?_
        refine xi_goto (pc' := 14) kc_135_66 rfl ?_
        refine xw_lv (b := [(0, .ref 1), (1, .ref 63), (2, .int x2), (3, .int v24)]) (lvS_cons (lvS_cons (lvS_cons (lvS_cons (lvS_nil (show ([3, 0, 1, 2] : List Nat).Nodup by decide)) rfl) rfl) rfl) rfl) ?_
        exact i0 x2 v24 hh19 (by omega) (by omega) K20 (by omega)
      · refine xi_cmf (pc' := 48) kc_135_45 rfl (xc_lt_f (X := v17.toInt) (Y := 50) rfl (by decide) (by omega)) ?_
        refine xi_aload_n (pc' := 49) (x := 1) kc_135_48 rfl rfl ?_
        have A25 := ((eh19.2.1 1 (xk_nc mpt11 rfl)).trans A4)
        refine xi_getfield (pc' := 52) (v := .ref 3) kc_135_49 rfl rfl rfl A25 rfl ?_
        refine xi_iload_n (pc' := 53) (x := x3) kc_135_52 rfl rfl ?_
        have A26 := ((eh19.2.1 3 (xk_nc mpt11 rfl)).trans A5)
        refine xj_aaload (pc' := 54) (b := pt6) kc_135_53 rfl A26 rfl (xi_in (n := 12) (by omega) (by omega)) ept6 ?_
        refine xi_dup (pc' := 55) kc_135_54 rfl rfl ?_
        have A27 := ((eh19.2.1 pt6 (xk_nn mpt6 mpt11 rfl)).trans A12)
        refine xi_getfield (pc' := 58) (v := .int u10) kc_135_55 rfl rfl rfl A27 rfl ?_
        refine xi_iconst (pc' := 59) (v := 1) kc_135_58 rfl rfl ?_
        refine xcps2 (α := Int32) ((u10 : Int32) + 1) (fun v28 ev28 => ?_)
        have rv28 := xc_rng v28
        refine xi_iadd (pc' := 60) (v := v28) kc_135_59 rfl ev28 ?_
        refine xi_putfield (pc' := 63) (fs' := [.int u7, .int u8, .int u9, .int v28, .ref pt11]) kc_135_60 rfl rfl rfl A27 rfl rfl rfl (Nat.le_of_ble_eq_true rfl) rfl (fun hh30 eh29 => ?_)
        obtain ⟨ds31, Dds31, dds31_0, dds31_1, dds31_2, dds31_3⟩ := xGo_wall mpt6
        have K32 := xk_pf (k := 3) (v := v28) K20 (xk_gf mpt6 rfl) Dds31 A27 dds31_3 (by first | omega | decide) (by first | omega | decide) eh29 rfl
        refine xcps2 (α := Int32) (x3 + 1) (fun v33 ev33 => ?_)
        have zv33 : v33.toInt = (x3.toInt + 1) := by rw [← ev33]; exact (xz_add (X := x3.toInt) (Y := 1) rfl (by decide) (by omega) (by omega)).trans (by omega)
        refine xi_iinc (pc' := 66) (x := x3) (v := v33) (lv' := [(3, .int v33), (0, .ref 1), (1, .ref 63), (2, .int x2)]) kc_135_63 rfl rfl ev33 rfl (xm_lt ml_135 rfl) ?_
        refine xi_goto (pc' := 14) kc_135_66 rfl ?_
        refine xw_lv (b := [(0, .ref 1), (1, .ref 63), (2, .int x2), (3, .int v33)]) (lvS_cons (lvS_cons (lvS_cons (lvS_cons (lvS_nil (show ([3, 0, 1, 2] : List Nat).Nodup by decide)) rfl) rfl) rfl) rfl) ?_
        exact i0 x2 v33 hh30 (by omega) (by omega) K32 (by omega)
set_option maxHeartbeats 4000000 in
theorem mt_135_0 {J : xe_J} {ov : List (List Int32)} (hJ : ∀ d mj as h, mj ≠ xe_loff → J d mj as h = none) (hov1 : ov[1]? = some [10, 0, 0, 0, 0, 0]) (hov2 : ov[2]? = some [99, 30, 50, 50, 1, 99999]) {d : Nat} {Q : Option Value → xe_H → Prop} {h : xe_H} {x2 : Int32} (T : xt h) (b2 : (0 ≤ x2.toInt ∧ x2.toInt ≤ 600)) (kk : (∀ h' : xe_H, xk [(0, 9), (115, 1), (83, 0), (29, 0), (31, 0), (33, 0), (35, 0), (37, 0), (39, 0), (41, 0), (43, 0), (45, 0), (47, 0), (49, 0), (51, 0), (125, 0), (66, 8), (115, 18), (71, 0), (132, 0)] h h' → Q none h')) : xw J ov (d + 1) 135 (0, [(0, .ref 1), (1, .ref 63), (2, .int x2)], [], h) Q := by
  have K : xk [(0, 9), (115, 1), (83, 0), (29, 0), (31, 0), (33, 0), (35, 0), (37, 0), (39, 0), (41, 0), (43, 0), (45, 0), (47, 0), (49, 0), (51, 0), (125, 0), (66, 8), (115, 18), (71, 0), (132, 0)] h h := xk_re T
  refine xi_iload_n (pc' := 1) (x := x2) kc_135_0 rfl rfl ?_
  refine xi_iff (pc' := 4) kc_135_1 rfl (xc_lt_f (X := x2.toInt) (Y := 0) rfl (by decide) (by omega)) ?_
  refine xi_iload_n (pc' := 5) (x := x2) kc_135_4 rfl rfl ?_
  refine xi_sipush (pc' := 8) (v := 600) kc_135_5 rfl rfl ?_
  by_cases c1 : x2.toInt < 600
  · refine xi_cmt (pc' := 12) kc_135_8 rfl (xc_lt_t (X := x2.toInt) (Y := 600) rfl (by decide) (by omega)) ?_
    refine xi_iconst (pc' := 13) (v := 0) kc_135_12 rfl rfl ?_
    refine xi_istore_n (pc' := 14) (lv' := [(3, .int 0), (0, .ref 1), (1, .ref 63), (2, .int x2)]) kc_135_13 rfl rfl (xm_lt ml_135 rfl) ?_
    have zc0 : (0 : Int32).toInt = 0 := by decide
    refine xw_lv (b := [(0, .ref 1), (1, .ref 63), (2, .int x2), (3, .int 0)]) (lvS_cons (lvS_cons (lvS_cons (lvS_cons (lvS_nil (show ([3, 0, 1, 2] : List Nat).Nodup by decide)) rfl) rfl) rfl) rfl) ?_
    exact (lp_135_0 hJ hov1 hov2 (d := d) (hb := h) (fun h9 K9 => kk h9 (xk_tr K K9 rfl)) 13) x2 0 h (by omega) (by omega) (xk_re K.1) (by omega)
  · refine xi_cmf (pc' := 11) kc_135_8 rfl (xc_lt_f (X := x2.toInt) (Y := 600) rfl (by decide) (by omega)) ?_
    refine xi_return kc_135_11 mr_135 ?_
    exact kk h K
set_option maxHeartbeats 4000000 in
theorem lp_136_0 {J : xe_J} {ov : List (List Int32)} (hJ : ∀ d mj as h, mj ≠ xe_loff → J d mj as h = none) (hov1 : ov[1]? = some [10, 0, 0, 0, 0, 0]) (hov2 : ov[2]? = some [99, 30, 50, 50, 1, 99999]) {d : Nat} {Q : Option Value → xe_H → Prop} {hb : xe_H} (kk : (∀ h' : xe_H, xk [(0, 9), (115, 1), (83, 0), (29, 0), (31, 0), (33, 0), (35, 0), (37, 0), (39, 0), (41, 0), (43, 0), (45, 0), (47, 0), (49, 0), (51, 0), (125, 0), (66, 8), (115, 18), (71, 0), (132, 0)] hb h' → Q none h')) : ∀ m : Nat, (∀ (x1 : Int32) (h : xe_H), (0 ≤ x1.toInt ∧ x1.toInt ≤ 20) → xk [(0, 9), (115, 1), (83, 0), (29, 0), (31, 0), (33, 0), (35, 0), (37, 0), (39, 0), (41, 0), (43, 0), (45, 0), (47, 0), (49, 0), (51, 0), (125, 0), (66, 8), (115, 18), (71, 0), (132, 0)] hb h → (-1) * x1.toInt + 20 < (m : Int) → xw J ov (d + 2) 136 (2, [(0, .ref 0), (1, .int x1)], [], h) Q) := by
  intro m
  induction m with
  | zero =>
    intro x1 h b1 K hm; exfalso; omega
  | succ m ih =>
    have i0 := ih
    intro x1 h b1 K hm
    refine xi_iload_n (pc' := 3) (x := x1) kc_136_2 rfl rfl ?_
    refine xi_aload_n (pc' := 4) (x := 0) kc_136_3 rfl rfl ?_
    refine xp_0 K.1 (fun u1 u2 bu1 bu2 A3 => ?_)
    refine xi_getfield (pc' := 7) (v := .int u1) kc_136_4 rfl rfl rfl A3 rfl ?_
    by_cases c4 : u1.toInt ≤ x1.toInt
    · refine xi_cmt (pc' := 60) kc_136_7 rfl (xc_ge_t (X := x1.toInt) (Y := u1.toInt) rfl rfl (by omega)) ?_
      refine xi_return kc_136_60 mr_136 ?_
      exact kk h K
    · refine xi_cmf (pc' := 10) kc_136_7 rfl (xc_ge_f (X := x1.toInt) (Y := u1.toInt) rfl rfl (by omega)) ?_
      refine xi_iload_n (pc' := 11) (x := x1) kc_136_10 rfl rfl ?_
      refine xi_bipush (pc' := 13) (v := 20) kc_136_11 rfl rfl ?_
      refine xi_cmf (pc' := 16) kc_136_13 rfl (xc_ge_f (X := x1.toInt) (Y := 20) rfl (by decide) (by omega)) ?_
      refine xi_aload_n (pc' := 17) (x := 0) kc_136_16 rfl rfl ?_
      refine xi_getfield (pc' := 20) (v := .ref 93) kc_136_17 rfl rfl rfl A3 rfl ?_
      refine xi_iload_n (pc' := 21) (x := x1) kc_136_20 rfl rfl ?_
      have A5 := xk_ex K.1 xD_93
      obtain ⟨pt6, ept6, mpt6⟩ := xR_93 (i := x1) (by omega) (by omega)
      refine xj_aaload (pc' := 22) (b := pt6) kc_136_21 rfl A5 rfl (xi_in (n := 20) (by omega) (by omega)) ept6 ?_
      refine xi_astore_n (pc' := 23) (lv' := [(2, .ref pt6), (0, .ref 0), (1, .int x1)]) kc_136_22 rfl rfl (xm_lt ml_136 rfl) ?_
      refine xi_aload_n (pc' := 24) (x := pt6) kc_136_23 rfl rfl ?_
      obtain ⟨u7, u8, u9, u10, u11, u12, bu7, bu8, bu9, bu10, bu11, bu12, A13⟩ := xg_trial K.1 mpt6
      refine xi_getfield (pc' := 27) (v := .int u11) kc_136_24 rfl rfl rfl A13 rfl ?_
      refine xi_aload_n (pc' := 28) (x := 0) kc_136_27 rfl rfl ?_
      refine xi_getfield (pc' := 31) (v := .int u2) kc_136_28 rfl rfl rfl A3 rfl ?_
      by_cases c14 : u11.toInt = u2.toInt
      · refine xi_cmf (pc' := 34) kc_136_31 rfl (xc_ne_f (X := u11.toInt) (Y := u2.toInt) rfl rfl (by omega)) ?_
        refine xi_aload_n (pc' := 35) (x := 0) kc_136_34 rfl rfl ?_
        refine xi_getfield (pc' := 38) (v := .ref 1) kc_136_35 rfl rfl rfl A3 rfl ?_
        refine xi_aload_n (pc' := 39) (x := pt6) kc_136_38 rfl rfl ?_
        refine xi_getfield (pc' := 42) (v := .int u7) kc_136_39 rfl rfl rfl A13 rfl ?_
        refine xi_aload_n (pc' := 43) (x := pt6) kc_136_42 rfl rfl ?_
        refine xi_getfield (pc' := 46) (v := .int u8) kc_136_43 rfl rfl rfl A13 rfl ?_
        refine xi_aload_n (pc' := 47) (x := pt6) kc_136_46 rfl rfl ?_
        refine xi_getfield (pc' := 50) (v := .int u12) kc_136_47 rfl rfl rfl A13 rfl ?_
        refine xp_1 K.1 (fun u15 u16 bu15 bu16 A17 => ?_)
        refine xi_virtual (mj := 92) (as := [.int u7, .int u8, .int u12]) (st1 := []) (lv0 := [(0, .ref 1), (1, .int u7), (2, .int u8), (3, .int u12)]) kc_136_50 rfl rfl rfl rfl rfl A17 (Nat.le_of_ble_eq_true rfl) (hJ _ _ _ _ (by decide)) (xm_le ml_92 rfl) rfl ?_
        refine xi_iload_n (pc' := 1) (x := u7) kc_92_0 rfl rfl ?_
        refine xi_static (mj := 89) (as := [.int u7]) (st1 := []) (lv0 := [(0, .int u7)]) kc_92_1 rfl rfl (Nat.le_of_ble_eq_true rfl) rfl rfl (Nat.le_of_ble_eq_true rfl) (hJ _ _ _ _ (by decide)) (xm_le ml_89 rfl) rfl ?_
        refine xi_iload_n (pc' := 1) (x := u7) kc_89_0 rfl rfl ?_
        by_cases c18 : u7.toInt < 0
        · refine xi_ift (pc' := 14) kc_89_1 rfl (xc_lt_t (X := u7.toInt) (Y := 0) rfl (by decide) (by omega)) ?_
          refine xi_iconst (pc' := 15) (v := 0) kc_89_14 rfl rfl ?_
          refine xi_ireturn kc_89_15 mr_89 rfl ?_
          show xw J ov (d + 1) 92 (4, [(0, .ref 1), (1, .int u7), (2, .int u8), (3, .int u12)], [.int 0], h) _
          refine xi_ift (pc' := 21) kc_92_4 rfl rfl ?_
          refine xi_iconst (pc' := 22) (v := 0) kc_92_21 rfl rfl ?_
          refine xi_ireturn kc_92_22 mr_92 rfl ?_
          show xw J ov (d + 2) 136 (53, [(2, .ref pt6), (0, .ref 0), (1, .int x1)], [.int 0], h) _
          refine xi_pop (pc' := 54) kc_136_53 rfl rfl ?_
          refine xcps2 (α := Int32) (x1 + 1) (fun v19 ev19 => ?_)
          have zv19 : v19.toInt = (x1.toInt + 1) := by rw [← ev19]; exact (xz_add (X := x1.toInt) (Y := 1) rfl (by decide) (by omega) (by omega)).trans (by omega)
          refine xi_iinc (pc' := 57) (x := x1) (v := v19) (lv' := [(1, .int v19), (2, .ref pt6), (0, .ref 0)]) kc_136_54 rfl rfl ev19 rfl (xm_lt ml_136 rfl) ?_
          refine xi_goto (pc' := 2) kc_136_57 rfl ?_
          refine xw_lv (b := [(0, .ref 0), (1, .int v19)]) (lvS_cons (lvS_cons (lvS_nil (show ([1, 2, 0] : List Nat).Nodup by decide)) rfl) rfl) ?_
          exact i0 v19 h (by omega) K (by omega)
        · refine xi_iff (pc' := 4) kc_89_1 rfl (xc_lt_f (X := u7.toInt) (Y := 0) rfl (by decide) (by omega)) ?_
          refine xi_iload_n (pc' := 5) (x := u7) kc_89_4 rfl rfl ?_
          refine xi_bipush (pc' := 7) (v := 6) kc_89_5 rfl rfl ?_
          by_cases c20 : 6 ≤ u7.toInt
          · refine xi_cmt (pc' := 14) kc_89_7 rfl (xc_ge_t (X := u7.toInt) (Y := 6) rfl (by decide) (by omega)) ?_
            refine xi_iconst (pc' := 15) (v := 0) kc_89_14 rfl rfl ?_
            refine xi_ireturn kc_89_15 mr_89 rfl ?_
            show xw J ov (d + 1) 92 (4, [(0, .ref 1), (1, .int u7), (2, .int u8), (3, .int u12)], [.int 0], h) _
            refine xi_ift (pc' := 21) kc_92_4 rfl rfl ?_
            refine xi_iconst (pc' := 22) (v := 0) kc_92_21 rfl rfl ?_
            refine xi_ireturn kc_92_22 mr_92 rfl ?_
            show xw J ov (d + 2) 136 (53, [(2, .ref pt6), (0, .ref 0), (1, .int x1)], [.int 0], h) _
            refine xi_pop (pc' := 54) kc_136_53 rfl rfl ?_
            refine xcps2 (α := Int32) (x1 + 1) (fun v21 ev21 => ?_)
            have zv21 : v21.toInt = (x1.toInt + 1) := by rw [← ev21]; exact (xz_add (X := x1.toInt) (Y := 1) rfl (by decide) (by omega) (by omega)).trans (by omega)
            refine xi_iinc (pc' := 57) (x := x1) (v := v21) (lv' := [(1, .int v21), (2, .ref pt6), (0, .ref 0)]) kc_136_54 rfl rfl ev21 rfl (xm_lt ml_136 rfl) ?_
            refine xi_goto (pc' := 2) kc_136_57 rfl ?_
            refine xw_lv (b := [(0, .ref 0), (1, .int v21)]) (lvS_cons (lvS_cons (lvS_nil (show ([1, 2, 0] : List Nat).Nodup by decide)) rfl) rfl) ?_
            exact i0 v21 h (by omega) K (by omega)
          · refine xi_cmf (pc' := 10) kc_89_7 rfl (xc_ge_f (X := u7.toInt) (Y := 6) rfl (by decide) (by omega)) ?_
            refine xi_iconst (pc' := 11) (v := 1) kc_89_10 rfl rfl ?_
            refine xi_goto (pc' := 15) kc_89_11 rfl ?_
            refine xi_ireturn kc_89_15 mr_89 rfl ?_
            show xw J ov (d + 1) 92 (4, [(0, .ref 1), (1, .int u7), (2, .int u8), (3, .int u12)], [.int 1], h) _
            refine xi_iff (pc' := 7) kc_92_4 rfl rfl ?_
            refine xi_aload_n (pc' := 8) (x := 1) kc_92_7 rfl rfl ?_
            refine xi_getfield (pc' := 11) (v := .ref 2) kc_92_8 rfl rfl rfl A17 rfl ?_
            refine xi_iload_n (pc' := 12) (x := u7) kc_92_11 rfl rfl ?_
            have A22 := xk_ex K.1 xD_2
            obtain ⟨pt23, ept23, mpt23⟩ := xR_2 (i := u7) (by omega) (by omega)
            refine xj_aaload (pc' := 13) (b := pt23) kc_92_12 rfl A22 rfl (xi_in (n := 6) (by omega) (by omega)) ept23 ?_
            refine xi_iload_n (pc' := 14) (x := u8) kc_92_13 rfl rfl ?_
            refine xi_iload_n (pc' := 15) (x := u12) kc_92_14 rfl rfl ?_
            obtain ⟨pt24, pt25, mpt24, mpt25, A26⟩ := xg_room K.1 mpt23
            refine xi_virtual (mj := 93) (as := [.int u8, .int u12]) (st1 := []) (lv0 := [(0, .ref pt23), (1, .int u8), (2, .int u12)]) kc_92_15 rfl rfl rfl rfl rfl A26 (Nat.le_of_ble_eq_true rfl) (hJ _ _ _ _ (by decide)) (xm_le ml_93 rfl) rfl ?_
            refine xi_iload_n (pc' := 1) (x := u8) kc_93_0 rfl rfl ?_
            by_cases c27 : u8.toInt < 0
            · refine xi_ift (pc' := 9) kc_93_1 rfl (xc_lt_t (X := u8.toInt) (Y := 0) rfl (by decide) (by omega)) ?_
              refine xi_iconst (pc' := 10) (v := 0) kc_93_9 rfl rfl ?_
              refine xi_ireturn kc_93_10 mr_93 rfl ?_
              show xw J ov (d + 1) 92 (18, [(0, .ref 1), (1, .int u7), (2, .int u8), (3, .int u12)], [.int 0], h) _
              refine xi_goto (pc' := 22) kc_92_18 rfl ?_
              refine xi_ireturn kc_92_22 mr_92 rfl ?_
              show xw J ov (d + 2) 136 (53, [(2, .ref pt6), (0, .ref 0), (1, .int x1)], [.int 0], h) _
              refine xi_pop (pc' := 54) kc_136_53 rfl rfl ?_
              refine xcps2 (α := Int32) (x1 + 1) (fun v28 ev28 => ?_)
              have zv28 : v28.toInt = (x1.toInt + 1) := by rw [← ev28]; exact (xz_add (X := x1.toInt) (Y := 1) rfl (by decide) (by omega) (by omega)).trans (by omega)
              refine xi_iinc (pc' := 57) (x := x1) (v := v28) (lv' := [(1, .int v28), (2, .ref pt6), (0, .ref 0)]) kc_136_54 rfl rfl ev28 rfl (xm_lt ml_136 rfl) ?_
              refine xi_goto (pc' := 2) kc_136_57 rfl ?_
              refine xw_lv (b := [(0, .ref 0), (1, .int v28)]) (lvS_cons (lvS_cons (lvS_nil (show ([1, 2, 0] : List Nat).Nodup by decide)) rfl) rfl) ?_
              exact i0 v28 h (by omega) K (by omega)
            · refine xi_iff (pc' := 4) kc_93_1 rfl (xc_lt_f (X := u8.toInt) (Y := 0) rfl (by decide) (by omega)) ?_
              refine xi_iload_n (pc' := 5) (x := u8) kc_93_4 rfl rfl ?_
              refine xi_iconst (pc' := 6) (v := 5) kc_93_5 rfl rfl ?_
              by_cases c29 : u8.toInt < 5
              · refine xi_cmt (pc' := 11) kc_93_6 rfl (xc_lt_t (X := u8.toInt) (Y := 5) rfl (by decide) (by omega)) ?_
                refine xi_aload_n (pc' := 12) (x := pt23) kc_93_11 rfl rfl ?_
                refine xi_getfield (pc' := 15) (v := .ref pt24) kc_93_12 rfl rfl rfl A26 rfl ?_
                refine xi_iload_n (pc' := 16) (x := u8) kc_93_15 rfl rfl ?_
                refine xcps4 (xk_arr K.1 (xGD_room0 mpt24)) (fun y30 A30 hy30 ry30 => ?_)
                refine xcps4 (xj_get hy30 ry30 (i := u8) (by omega) (by omega)) (fun v31 ev31 bv31 dv31 => ?_)
                refine xi_iaload (pc' := 17) (v := v31) kc_93_16 rfl A30 (xk_lo mpt24 rfl) rfl (xi_in (by omega) (by rw [hy30]; omega)) ev31 ?_
                refine xi_istore_n (pc' := 18) (lv' := [(3, .int v31), (0, .ref pt23), (1, .int u8), (2, .int u12)]) kc_93_17 rfl rfl (xm_lt ml_93 rfl) ?_
                refine xi_aload_n (pc' := 19) (x := pt23) kc_93_18 rfl rfl ?_
                refine xi_getfield (pc' := 22) (v := .ref pt24) kc_93_19 rfl rfl rfl A26 rfl ?_
                refine xi_iload_n (pc' := 23) (x := u8) kc_93_22 rfl rfl ?_
                refine xi_iload_n (pc' := 24) (x := u12) kc_93_23 rfl rfl ?_
                refine xcps4 (xj_set (v := u12) hy30 ry30 u8 (by first | omega | decide) (by first | omega | decide)) (fun y32 s32 hy32 ry32 => ?_)
                refine xi_iastore (pc' := 25) (x' := y32) kc_93_24 rfl A30 rfl (xi_in (by omega) (by rw [hy30]; omega)) s32 (fun hh32 eh32 => ?_)
                have K33 := xk_pa K (xk_ga mpt24 rfl) (xGD_room0 mpt24) hy32 ry32 eh32
                refine xi_iload_n (pc' := 26) (x := v31) kc_93_25 rfl rfl ?_
                refine xi_ireturn kc_93_26 mr_93 rfl ?_
                show xw J ov (d + 1) 92 (18, [(0, .ref 1), (1, .int u7), (2, .int u8), (3, .int u12)], [.int v31], hh32) _
                refine xi_goto (pc' := 22) kc_92_18 rfl ?_
                refine xi_ireturn kc_92_22 mr_92 rfl ?_
                show xw J ov (d + 2) 136 (53, [(2, .ref pt6), (0, .ref 0), (1, .int x1)], [.int v31], hh32) _
                refine xi_pop (pc' := 54) kc_136_53 rfl rfl ?_
                refine xcps2 (α := Int32) (x1 + 1) (fun v34 ev34 => ?_)
                have zv34 : v34.toInt = (x1.toInt + 1) := by rw [← ev34]; exact (xz_add (X := x1.toInt) (Y := 1) rfl (by decide) (by omega) (by omega)).trans (by omega)
                refine xi_iinc (pc' := 57) (x := x1) (v := v34) (lv' := [(1, .int v34), (2, .ref pt6), (0, .ref 0)]) kc_136_54 rfl rfl ev34 rfl (xm_lt ml_136 rfl) ?_
                refine xi_goto (pc' := 2) kc_136_57 rfl ?_
                refine xw_lv (b := [(0, .ref 0), (1, .int v34)]) (lvS_cons (lvS_cons (lvS_nil (show ([1, 2, 0] : List Nat).Nodup by decide)) rfl) rfl) ?_
                exact i0 v34 hh32 (by omega) K33 (by omega)
              · refine xi_cmf (pc' := 9) kc_93_6 rfl (xc_lt_f (X := u8.toInt) (Y := 5) rfl (by decide) (by omega)) ?_
                refine xi_iconst (pc' := 10) (v := 0) kc_93_9 rfl rfl ?_
                refine xi_ireturn kc_93_10 mr_93 rfl ?_
                show xw J ov (d + 1) 92 (18, [(0, .ref 1), (1, .int u7), (2, .int u8), (3, .int u12)], [.int 0], h) _
                refine xi_goto (pc' := 22) kc_92_18 rfl ?_
                refine xi_ireturn kc_92_22 mr_92 rfl ?_
                show xw J ov (d + 2) 136 (53, [(2, .ref pt6), (0, .ref 0), (1, .int x1)], [.int 0], h) _
                refine xi_pop (pc' := 54) kc_136_53 rfl rfl ?_
                refine xcps2 (α := Int32) (x1 + 1) (fun v35 ev35 => ?_)
                have zv35 : v35.toInt = (x1.toInt + 1) := by rw [← ev35]; exact (xz_add (X := x1.toInt) (Y := 1) rfl (by decide) (by omega) (by omega)).trans (by omega)
                refine xi_iinc (pc' := 57) (x := x1) (v := v35) (lv' := [(1, .int v35), (2, .ref pt6), (0, .ref 0)]) kc_136_54 rfl rfl ev35 rfl (xm_lt ml_136 rfl) ?_
                refine xi_goto (pc' := 2) kc_136_57 rfl ?_
                refine xw_lv (b := [(0, .ref 0), (1, .int v35)]) (lvS_cons (lvS_cons (lvS_nil (show ([1, 2, 0] : List Nat).Nodup by decide)) rfl) rfl) ?_
                exact i0 v35 h (by omega) K (by omega)
      · refine xi_cmt (pc' := 54) kc_136_31 rfl (xc_ne_t (X := u11.toInt) (Y := u2.toInt) rfl rfl (by omega)) ?_
        refine xcps2 (α := Int32) (x1 + 1) (fun v36 ev36 => ?_)
        have zv36 : v36.toInt = (x1.toInt + 1) := by rw [← ev36]; exact (xz_add (X := x1.toInt) (Y := 1) rfl (by decide) (by omega) (by omega)).trans (by omega)
        refine xi_iinc (pc' := 57) (x := x1) (v := v36) (lv' := [(1, .int v36), (2, .ref pt6), (0, .ref 0)]) kc_136_54 rfl rfl ev36 rfl (xm_lt ml_136 rfl) ?_
        refine xi_goto (pc' := 2) kc_136_57 rfl ?_
        refine xw_lv (b := [(0, .ref 0), (1, .int v36)]) (lvS_cons (lvS_cons (lvS_nil (show ([1, 2, 0] : List Nat).Nodup by decide)) rfl) rfl) ?_
        exact i0 v36 h (by omega) K (by omega)
set_option maxHeartbeats 4000000 in
theorem mt_136_0 {J : xe_J} {ov : List (List Int32)} (hJ : ∀ d mj as h, mj ≠ xe_loff → J d mj as h = none) (hov1 : ov[1]? = some [10, 0, 0, 0, 0, 0]) (hov2 : ov[2]? = some [99, 30, 50, 50, 1, 99999]) {d : Nat} {Q : Option Value → xe_H → Prop} {h : xe_H} (T : xt h) (kk : (∀ h' : xe_H, xk [(0, 9), (115, 1), (83, 0), (29, 0), (31, 0), (33, 0), (35, 0), (37, 0), (39, 0), (41, 0), (43, 0), (45, 0), (47, 0), (49, 0), (51, 0), (125, 0), (66, 8), (115, 18), (71, 0), (132, 0)] h h' → Q none h')) : xw J ov (d + 2) 136 (0, [(0, .ref 0)], [], h) Q := by
  have K : xk [(0, 9), (115, 1), (83, 0), (29, 0), (31, 0), (33, 0), (35, 0), (37, 0), (39, 0), (41, 0), (43, 0), (45, 0), (47, 0), (49, 0), (51, 0), (125, 0), (66, 8), (115, 18), (71, 0), (132, 0)] h h := xk_re T
  refine xi_iconst (pc' := 1) (v := 0) kc_136_0 rfl rfl ?_
  refine xi_istore_n (pc' := 2) (lv' := [(1, .int 0), (0, .ref 0)]) kc_136_1 rfl rfl (xm_lt ml_136 rfl) ?_
  have zc0 : (0 : Int32).toInt = 0 := by decide
  refine xw_lv (b := [(0, .ref 0), (1, .int 0)]) (lvS_cons (lvS_cons (lvS_nil (show ([1, 0] : List Nat).Nodup by decide)) rfl) rfl) ?_
  exact (lp_136_0 hJ hov1 hov2 (d := d) (hb := h) (fun h9 K9 => kk h9 (xk_tr K K9 rfl)) 21) 0 h (by omega) (xk_re K.1) (by omega)
set_option maxHeartbeats 4000000 in
theorem lp_121_0 {J : xe_J} {ov : List (List Int32)} (hJ : ∀ d mj as h, mj ≠ xe_loff → J d mj as h = none) (hov1 : ov[1]? = some [10, 0, 0, 0, 0, 0]) (hov2 : ov[2]? = some [99, 30, 50, 50, 1, 99999]) {d : Nat} {Q : Option Value → xe_H → Prop} {hb : xe_H} {u0 : Int32} {gx1 : Int32} (bgu0 : (0 ≤ u0.toInt ∧ u0.toInt ≤ 600)) (kk : (∀ (r : Int32) (h' : xe_H), ((-6) ≤ r.toInt ∧ r.toInt ≤ 600) → (∀ v : Int32, xl h' (0, 9) = some (.inl (.int v)) → ((gx1.toInt < 1 ∧ r.toInt = -4 ∧ v.toInt = u0.toInt) ∨ (1 ≤ gx1.toInt ∧ 600 - u0.toInt < gx1.toInt ∧ r.toInt = -6 ∧ v.toInt = u0.toInt) ∨ (1 ≤ gx1.toInt ∧ gx1.toInt ≤ 600 - u0.toInt ∧ r.toInt = u0.toInt + gx1.toInt ∧ v.toInt = u0.toInt + gx1.toInt))) → xk [(115, 1), (83, 0), (29, 0), (31, 0), (33, 0), (35, 0), (37, 0), (39, 0), (41, 0), (43, 0), (45, 0), (47, 0), (49, 0), (51, 0), (125, 0), (66, 8), (115, 18), (71, 0), (132, 0)] hb h' → Q (some (.int r)) h')) : ∀ m : Nat, (∀ (x1 : Int32) (x2 : Int32) (h : xe_H), (1 ≤ x1.toInt ∧ x1.toInt ≤ 600) → (0 ≤ x2.toInt ∧ x2.toInt ≤ 600) → (∀ v : Int32, xl h (0, 9) = some (.inl (.int v)) → v.toInt + (-1) * u0.toInt + (-1) * x2.toInt + 0 = 0) → (x2.toInt + (-1) * x1.toInt + 0 ≤ 0) → (x1.toInt + u0.toInt + (-600) ≤ 0) → (x1.toInt + (-1) * gx1.toInt + 0 = 0) → xk [(115, 1), (83, 0), (29, 0), (31, 0), (33, 0), (35, 0), (37, 0), (39, 0), (41, 0), (43, 0), (45, 0), (47, 0), (49, 0), (51, 0), (125, 0), (66, 8), (115, 18), (71, 0), (132, 0)] hb h → (-1) * x2.toInt + 600 < (m : Int) → xw J ov (d + 6) 121 (40, [(0, .ref 0), (1, .int x1), (2, .int x2)], [], h) Q) := by
  intro m
  induction m with
  | zero =>
    intro x1 x2 h b1 b2 gh0 gh1 gh2 gh3 K hm; exfalso; omega
  | succ m ih =>
    have i0 := ih
    intro x1 x2 h b1 b2 gh0 gh1 gh2 gh3 K hm
    refine xp_0 K.1 (fun u1 u2 bu1 bu2 A3 => ?_)
    have gh0' := gh0 _ (xl_of A3 rfl)
    refine xi_iload_n (pc' := 41) (x := x2) kc_121_40 rfl rfl ?_
    refine xi_iload_n (pc' := 42) (x := x1) kc_121_41 rfl rfl ?_
    by_cases c4 : x1.toInt ≤ x2.toInt
    · refine xi_cmt (pc' := 55) kc_121_42 rfl (xc_ge_t (X := x2.toInt) (Y := x1.toInt) rfl rfl (by omega)) ?_
      refine xi_aload_n (pc' := 56) (x := 0) kc_121_55 rfl rfl ?_
      refine xi_getfield (pc' := 59) (v := .int u2) kc_121_56 rfl rfl rfl A3 rfl ?_
      refine xi_ireturn kc_121_59 mr_121 rfl ?_
      exact kk u2 h (by omega) (fun v e => by have e2 := xl_val (u := u2) A3 rfl e; subst e2; omega) K
    · refine xi_cmf (pc' := 45) kc_121_42 rfl (xc_ge_f (X := x2.toInt) (Y := x1.toInt) rfl rfl (by omega)) ?_
      refine xi_aload_n (pc' := 46) (x := 0) kc_121_45 rfl rfl ?_
      refine xi_virtual (mj := 122) (as := []) (st1 := []) (lv0 := [(0, .ref 0)]) kc_121_46 rfl rfl rfl rfl rfl A3 (Nat.le_of_ble_eq_true rfl) (hJ _ _ _ _ (by decide)) (xm_le ml_122 rfl) rfl ?_
      refine xi_aload_n (pc' := 1) (x := 0) kc_122_0 rfl rfl ?_
      refine xi_virtual (mj := 123) (as := []) (st1 := []) (lv0 := [(0, .ref 0)]) kc_122_1 rfl rfl rfl rfl rfl A3 (Nat.le_of_ble_eq_true rfl) (hJ _ _ _ _ (by decide)) (xm_le ml_123 rfl) rfl ?_
      refine mt_123_0 hJ hov1 hov2 (d := d + 2)  K.1 (fun hh6 K7 => ?_)
      have K8 := xk_tr K K7 rfl
      refine xp_0 K8.1 (fun u9 u10 bu9 bu10 A11 => ?_)
      have e12 : u2 = u10 := xk_eqi (q := 9) K7 rfl A3 A11 rfl rfl
      subst e12
      show xw J ov (d + 5) 122 (4, [(0, .ref 0)], [], hh6) _
      refine xi_aload_n (pc' := 5) (x := 0) kc_122_4 rfl rfl ?_
      refine xi_getfield (pc' := 8) (v := .ref 1) kc_122_5 rfl rfl rfl A11 rfl ?_
      refine xi_aload_n (pc' := 9) (x := 0) kc_122_8 rfl rfl ?_
      refine xi_getfield (pc' := 12) (v := .ref 63) kc_122_9 rfl rfl rfl A11 rfl ?_
      refine xi_aload_n (pc' := 13) (x := 0) kc_122_12 rfl rfl ?_
      refine xi_getfield (pc' := 16) (v := .int u2) kc_122_13 rfl rfl rfl A11 rfl ?_
      refine xp_1 K8.1 (fun u13 u14 bu13 bu14 A15 => ?_)
      refine xi_virtual (mj := 124) (as := [.ref 63, .int u2]) (st1 := []) (lv0 := [(0, .ref 1), (1, .ref 63), (2, .int u2)]) kc_122_16 rfl rfl rfl rfl rfl A15 (Nat.le_of_ble_eq_true rfl) (hJ _ _ _ _ (by decide)) (xm_le ml_124 rfl) rfl ?_
      refine mt_124_0 hJ hov1 hov2 (d := d) (x2 := u2) K8.1 (by first | omega | decide) (fun hh17 K18 => ?_)
      have K19 := xk_tr K8 K18 rfl
      refine xp_0 K19.1 (fun u20 u21 bu20 bu21 A22 => ?_)
      have e23 : u2 = u21 := xk_eqi (q := 9) K18 rfl A11 A22 rfl rfl
      subst e23
      show xw J ov (d + 5) 122 (19, [(0, .ref 0)], [], hh17) _
      refine xi_aload_n (pc' := 20) (x := 0) kc_122_19 rfl rfl ?_
      refine xi_getfield (pc' := 23) (v := .ref 1) kc_122_20 rfl rfl rfl A22 rfl ?_
      refine xi_aload_n (pc' := 24) (x := 0) kc_122_23 rfl rfl ?_
      refine xi_getfield (pc' := 27) (v := .ref 63) kc_122_24 rfl rfl rfl A22 rfl ?_
      refine xi_aload_n (pc' := 28) (x := 0) kc_122_27 rfl rfl ?_
      refine xi_getfield (pc' := 31) (v := .int u2) kc_122_28 rfl rfl rfl A22 rfl ?_
      refine xp_1 K19.1 (fun u24 u25 bu24 bu25 A26 => ?_)
      refine xi_virtual (mj := 135) (as := [.ref 63, .int u2]) (st1 := []) (lv0 := [(0, .ref 1), (1, .ref 63), (2, .int u2)]) kc_122_31 rfl rfl rfl rfl rfl A26 (Nat.le_of_ble_eq_true rfl) (hJ _ _ _ _ (by decide)) (xm_le ml_135 rfl) rfl ?_
      refine mt_135_0 hJ hov1 hov2 (d := d + 3) (x2 := u2) K19.1 (by first | omega | decide) (fun hh28 K29 => ?_)
      have K30 := xk_tr K19 K29 rfl
      refine xp_0 K30.1 (fun u31 u32 bu31 bu32 A33 => ?_)
      have e34 : u2 = u32 := xk_eqi (q := 9) K29 rfl A22 A33 rfl rfl
      subst e34
      show xw J ov (d + 5) 122 (34, [(0, .ref 0)], [], hh28) _
      refine xi_aload_n (pc' := 35) (x := 0) kc_122_34 rfl rfl ?_
      refine xi_dup (pc' := 36) kc_122_35 rfl rfl ?_
      refine xi_getfield (pc' := 39) (v := .int u2) kc_122_36 rfl rfl rfl A33 rfl ?_
      refine xi_iconst (pc' := 40) (v := 1) kc_122_39 rfl rfl ?_
      have t35 : 0 ≤ u2.toInt ∧ u2.toInt ≤ 599 := by omega
      refine xcps2 (α := Int32) (u2 + 1) (fun v36 ev36 => ?_)
      have zv36 : v36.toInt = (u2.toInt + 1) := by rw [← ev36]; exact (xz_add (X := u2.toInt) (Y := 1) rfl (by decide) (by omega) (by omega)).trans (by omega)
      refine xi_iadd (pc' := 41) (v := v36) kc_122_40 rfl ev36 ?_
      refine xi_putfield (pc' := 44) (fs' := [.ref 1, .ref 63, .ref 66, .ref 75, .ref 80, .ref 85, .ref 93, .ref 94, .int u31, .int v36]) kc_122_41 rfl rfl rfl A33 rfl rfl rfl (Nat.le_of_ble_eq_true rfl) rfl (fun hh38 eh37 => ?_)
      have K39 := xk_pf (k := 9) (v := v36) K30 (xk_wf rfl) xD_0 A33 rfl (by first | omega | decide) (by first | omega | decide) eh37 rfl
      refine xi_aload_n (pc' := 45) (x := 0) kc_122_44 rfl rfl ?_
      refine xi_virtual (mj := 136) (as := []) (st1 := []) (lv0 := [(0, .ref 0)]) kc_122_45 rfl rfl rfl rfl rfl eh37.1 (Nat.le_of_ble_eq_true rfl) (hJ _ _ _ _ (by decide)) (xm_le ml_136 rfl) rfl ?_
      refine mt_136_0 hJ hov1 hov2 (d := d + 2)  K39.1 (fun hh41 K42 => ?_)
      have K43 := xk_tr K39 K42 rfl
      refine xp_0 K43.1 (fun u44 u45 bu44 bu45 A46 => ?_)
      have e47 : v36 = u45 := xk_eqi (q := 9) K42 rfl eh37.1 A46 rfl rfl
      subst e47
      show xw J ov (d + 5) 122 (48, [(0, .ref 0)], [], hh41) _
      refine xi_return kc_122_48 mr_122 ?_
      show xw J ov (d + 6) 121 (49, [(0, .ref 0), (1, .int x1), (2, .int x2)], [], hh41) _
      refine xcps2 (α := Int32) (x2 + 1) (fun v48 ev48 => ?_)
      have zv48 : v48.toInt = (x2.toInt + 1) := by rw [← ev48]; exact (xz_add (X := x2.toInt) (Y := 1) rfl (by decide) (by omega) (by omega)).trans (by omega)
      refine xi_iinc (pc' := 52) (x := x2) (v := v48) (lv' := [(2, .int v48), (0, .ref 0), (1, .int x1)]) kc_121_49 rfl rfl ev48 rfl (xm_lt ml_121 rfl) ?_
      refine xi_goto (pc' := 40) kc_121_52 rfl ?_
      refine xw_lv (b := [(0, .ref 0), (1, .int x1), (2, .int v48)]) (lvS_cons (lvS_cons (lvS_cons (lvS_nil (show ([2, 0, 1] : List Nat).Nodup by decide)) rfl) rfl) rfl) ?_
      exact i0 x1 v48 hh41 (by omega) (by omega) (fun v e => by have e2 := xl_val (u := v36) A46 rfl e; subst e2; omega) (by first | omega | decide) (by first | omega | decide) (by first | omega | decide) K43 (by omega)
set_option maxHeartbeats 4000000 in
theorem mt_121_0 {J : xe_J} {ov : List (List Int32)} (hJ : ∀ d mj as h, mj ≠ xe_loff → J d mj as h = none) (hov1 : ov[1]? = some [10, 0, 0, 0, 0, 0]) (hov2 : ov[2]? = some [99, 30, 50, 50, 1, 99999]) {d : Nat} {Q : Option Value → xe_H → Prop} {h : xe_H} {x1 : Int32} {u0 : Int32} (T : xt h) (bgu0 : (0 ≤ u0.toInt ∧ u0.toInt ≤ 600)) (gi0 : (∀ v : Int32, xl h (0, 9) = some (.inl (.int v)) → v.toInt + (-1) * u0.toInt + 0 = 0)) (kk : (∀ (r : Int32) (h' : xe_H), ((-6) ≤ r.toInt ∧ r.toInt ≤ 600) → (∀ v : Int32, xl h' (0, 9) = some (.inl (.int v)) → ((x1.toInt < 1 ∧ r.toInt = -4 ∧ v.toInt = u0.toInt) ∨ (1 ≤ x1.toInt ∧ 600 - u0.toInt < x1.toInt ∧ r.toInt = -6 ∧ v.toInt = u0.toInt) ∨ (1 ≤ x1.toInt ∧ x1.toInt ≤ 600 - u0.toInt ∧ r.toInt = u0.toInt + x1.toInt ∧ v.toInt = u0.toInt + x1.toInt))) → xk [(115, 1), (83, 0), (29, 0), (31, 0), (33, 0), (35, 0), (37, 0), (39, 0), (41, 0), (43, 0), (45, 0), (47, 0), (49, 0), (51, 0), (125, 0), (66, 8), (115, 18), (71, 0), (132, 0)] h h' → Q (some (.int r)) h')) : xw J ov (d + 6) 121 (0, [(0, .ref 0), (1, .int x1)], [], h) Q := by
  have K : xk [(115, 1), (83, 0), (29, 0), (31, 0), (33, 0), (35, 0), (37, 0), (39, 0), (41, 0), (43, 0), (45, 0), (47, 0), (49, 0), (51, 0), (125, 0), (66, 8), (115, 18), (71, 0), (132, 0)] h h := xk_re T
  have rx1 := xc_rng x1
  refine xp_0 K.1 (fun u1 u2 bu1 bu2 A3 => ?_)
  have gi0' := gi0 _ (xl_of A3 rfl)
  refine xi_iload_n (pc' := 1) (x := x1) kc_121_0 rfl rfl ?_
  refine xi_iconst (pc' := 2) (v := 1) kc_121_1 rfl rfl ?_
  by_cases c4 : 1 ≤ x1.toInt
  · refine xi_cmt (pc' := 12) kc_121_2 rfl (xc_ge_t (X := x1.toInt) (Y := 1) rfl (by decide) (by omega)) ?_
    refine xi_iload_n (pc' := 13) (x := x1) kc_121_12 rfl rfl ?_
    refine xi_sipush (pc' := 16) (v := 600) kc_121_13 rfl rfl ?_
    refine xi_aload_n (pc' := 17) (x := 0) kc_121_16 rfl rfl ?_
    refine xi_getfield (pc' := 20) (v := .int u2) kc_121_17 rfl rfl rfl A3 rfl ?_
    refine xcps2 (α := Int32) (600 - u2) (fun v5 ev5 => ?_)
    have zv5 : v5.toInt = ((-1) * u2.toInt + 600) := by rw [← ev5]; exact (xz_sub (X := 600) (Y := u2.toInt) (by decide) rfl (by omega) (by omega)).trans (by omega)
    refine xi_isub (pc' := 21) (v := v5) kc_121_20 rfl ev5 ?_
    by_cases c6 : x1.toInt ≤ ((-1) * u2.toInt + 600)
    · refine xi_cmt (pc' := 31) kc_121_21 rfl (xc_le_t (X := x1.toInt) (Y := ((-1) * u2.toInt + 600)) rfl zv5 (by omega)) ?_
      refine xi_aload_n (pc' := 32) (x := 0) kc_121_31 rfl rfl ?_
      refine xi_getfield (pc' := 35) (v := .ref 66) kc_121_32 rfl rfl rfl A3 rfl ?_
      refine xp_66 K.1 (fun u8 wl7 bu8 A9 => ?_)
      refine xi_virtual (mj := 91) (as := []) (st1 := []) (lv0 := [(0, .ref 66)]) kc_121_35 rfl rfl rfl rfl rfl A9 (Nat.le_of_ble_eq_true rfl) (hJ _ _ _ _ (by decide)) (xm_le ml_91 rfl) rfl ?_
      refine xi_aload_n (pc' := 1) (x := 66) kc_91_0 rfl rfl ?_
      refine xi_lconst (pc' := 2) (v := 0) kc_91_1 rfl rfl ?_
      refine xi_putfield (pc' := 5) (fs' := [.ref 1, .ref 67, .ref 70, .ref 71, .ref 72, .ref 73, .ref 74, .long 0, .int u8]) kc_91_2 rfl rfl rfl A9 rfl rfl rfl (Nat.le_of_ble_eq_true rfl) rfl (fun hh11 eh10 => ?_)
      have K12 := xk_pl (k := 7) (v := 0) K (xk_wf rfl) xD_66 A9 rfl eh10 rfl
      refine xi_return kc_91_5 mr_91 ?_
      show xw J ov (d + 6) 121 (38, [(0, .ref 0), (1, .int x1)], [], hh11) _
      refine xi_iconst (pc' := 39) (v := 0) kc_121_38 rfl rfl ?_
      refine xi_istore_n (pc' := 40) (lv' := [(2, .int 0), (0, .ref 0), (1, .int x1)]) kc_121_39 rfl rfl (xm_lt ml_121 rfl) ?_
      have zc0 : (0 : Int32).toInt = 0 := by decide
      have A13 := ((eh10.2.1 0 (by decide)).trans A3)
      refine xw_lv (b := [(0, .ref 0), (1, .int x1), (2, .int 0)]) (lvS_cons (lvS_cons (lvS_cons (lvS_nil (show ([2, 0, 1] : List Nat).Nodup by decide)) rfl) rfl) rfl) ?_
      exact (lp_121_0 hJ hov1 hov2 (d := d) (gx1 := x1) (hb := hh11) bgu0 (fun r9 h9 b9 o90 K9 => kk r9 h9 b9 o90 (xk_tr K12 K9 rfl)) 601) x1 0 hh11 (by omega) (by omega) (fun v e => by have e2 := xl_val (u := u2) A13 rfl e; subst e2; omega) (by first | omega | decide) (by first | omega | decide) (by first | omega | decide) (xk_re K12.1) (by omega)
    · refine xi_cmf (pc' := 24) kc_121_21 rfl (xc_le_f (X := x1.toInt) (Y := ((-1) * u2.toInt + 600)) rfl zv5 (by omega)) ?_
      refine xi_aload_n (pc' := 25) (x := 0) kc_121_24 rfl rfl ?_
      refine xi_bipush (pc' := 27) (v := (-6)) kc_121_25 rfl rfl ?_
      refine xi_virtual (mj := 90) (as := [.int (-6)]) (st1 := []) (lv0 := [(0, .ref 0), (1, .int (-6))]) kc_121_27 rfl rfl rfl rfl rfl A3 (Nat.le_of_ble_eq_true rfl) (hJ _ _ _ _ (by decide)) (xm_le ml_90 rfl) rfl ?_
      refine xi_iload_n (pc' := 1) (x := (-6)) kc_90_0 rfl rfl ?_
      refine xi_ineg (pc' := 2) (v := 6) kc_90_1 rfl rfl ?_
      refine xi_istore_n (pc' := 3) (lv' := [(2, .int 6), (0, .ref 0), (1, .int (-6))]) kc_90_2 rfl rfl (xm_lt ml_90 rfl) ?_
      refine xi_iload_n (pc' := 4) (x := 6) kc_90_3 rfl rfl ?_
      refine xi_iff (pc' := 7) kc_90_4 rfl rfl ?_
      refine xi_iload_n (pc' := 8) (x := 6) kc_90_7 rfl rfl ?_
      refine xi_aload_n (pc' := 9) (x := 0) kc_90_8 rfl rfl ?_
      refine xi_getfield (pc' := 12) (v := .ref 94) kc_90_9 rfl rfl rfl A3 rfl ?_
      refine xcps4 (xk_arr K.1 xD_94) (fun y14 A14 hy14 ry14 => ?_)
      refine xi_arraylength (pc' := 13) (n := 7) (v := 7) kc_90_12 rfl (xl_lenI (by decide) (by decide) A14 hy14) rfl ?_
      refine xi_cmf (pc' := 16) kc_90_13 rfl rfl ?_
      refine xi_aload_n (pc' := 17) (x := 0) kc_90_16 rfl rfl ?_
      refine xi_getfield (pc' := 20) (v := .ref 94) kc_90_17 rfl rfl rfl A3 rfl ?_
      refine xi_iload_n (pc' := 21) (x := 6) kc_90_20 rfl rfl ?_
      refine xi_dup2 (pc' := 22) kc_90_21 rfl ⟨rfl, rfl⟩ ?_
      refine xcps4 (xj_get hy14 ry14 (i := 6) (by decide) (by decide)) (fun v15 ev15 bv15 dv15 => ?_)
      refine xi_iaload (pc' := 23) (v := v15) kc_90_22 rfl A14 (by decide) rfl (xi_in (by decide) (by rw [hy14]; decide)) ev15 ?_
      refine xi_iconst (pc' := 24) (v := 1) kc_90_23 rfl rfl ?_
      refine xcps2 (α := Int32) ((v15 : Int32) + 1) (fun v16 ev16 => ?_)
      have rv16 := xc_rng v16
      refine xi_iadd (pc' := 25) (v := v16) kc_90_24 rfl ev16 ?_
      refine xcps4 (xj_set (v := v16) hy14 ry14 6 (by first | omega | decide) (by first | omega | decide)) (fun y17 s17 hy17 ry17 => ?_)
      refine xi_iastore (pc' := 26) (x' := y17) kc_90_25 rfl A14 rfl (xi_in (by decide) (by rw [hy14]; decide)) s17 (fun hh17 eh17 => ?_)
      have K18 := xk_pa K (xk_wa rfl) xD_94 hy17 ry17 eh17
      refine xi_iload_n (pc' := 27) (x := (-6)) kc_90_26 rfl rfl ?_
      refine xi_ireturn kc_90_27 mr_90 rfl ?_
      show xw J ov (d + 6) 121 (30, [(0, .ref 0), (1, .int x1)], [.int (-6)], hh17) _
      refine xi_ireturn kc_121_30 mr_121 rfl ?_
      have zcm6 : ((-6) : Int32).toInt = (-6) := by decide
      have A19 := ((eh17.2.1 0 (by decide)).trans A3)
      exact kk (-6) hh17 (by omega) (fun v e => by have e2 := xl_val (u := u2) A19 rfl e; subst e2; omega) K18
  · refine xi_cmf (pc' := 5) kc_121_2 rfl (xc_ge_f (X := x1.toInt) (Y := 1) rfl (by decide) (by omega)) ?_
    refine xi_aload_n (pc' := 6) (x := 0) kc_121_5 rfl rfl ?_
    refine xi_bipush (pc' := 8) (v := (-4)) kc_121_6 rfl rfl ?_
    refine xi_virtual (mj := 90) (as := [.int (-4)]) (st1 := []) (lv0 := [(0, .ref 0), (1, .int (-4))]) kc_121_8 rfl rfl rfl rfl rfl A3 (Nat.le_of_ble_eq_true rfl) (hJ _ _ _ _ (by decide)) (xm_le ml_90 rfl) rfl ?_
    refine xi_iload_n (pc' := 1) (x := (-4)) kc_90_0 rfl rfl ?_
    refine xi_ineg (pc' := 2) (v := 4) kc_90_1 rfl rfl ?_
    refine xi_istore_n (pc' := 3) (lv' := [(2, .int 4), (0, .ref 0), (1, .int (-4))]) kc_90_2 rfl rfl (xm_lt ml_90 rfl) ?_
    refine xi_iload_n (pc' := 4) (x := 4) kc_90_3 rfl rfl ?_
    refine xi_iff (pc' := 7) kc_90_4 rfl rfl ?_
    refine xi_iload_n (pc' := 8) (x := 4) kc_90_7 rfl rfl ?_
    refine xi_aload_n (pc' := 9) (x := 0) kc_90_8 rfl rfl ?_
    refine xi_getfield (pc' := 12) (v := .ref 94) kc_90_9 rfl rfl rfl A3 rfl ?_
    refine xcps4 (xk_arr K.1 xD_94) (fun y20 A20 hy20 ry20 => ?_)
    refine xi_arraylength (pc' := 13) (n := 7) (v := 7) kc_90_12 rfl (xl_lenI (by decide) (by decide) A20 hy20) rfl ?_
    refine xi_cmf (pc' := 16) kc_90_13 rfl rfl ?_
    refine xi_aload_n (pc' := 17) (x := 0) kc_90_16 rfl rfl ?_
    refine xi_getfield (pc' := 20) (v := .ref 94) kc_90_17 rfl rfl rfl A3 rfl ?_
    refine xi_iload_n (pc' := 21) (x := 4) kc_90_20 rfl rfl ?_
    refine xi_dup2 (pc' := 22) kc_90_21 rfl ⟨rfl, rfl⟩ ?_
    refine xcps4 (xj_get hy20 ry20 (i := 4) (by decide) (by decide)) (fun v21 ev21 bv21 dv21 => ?_)
    refine xi_iaload (pc' := 23) (v := v21) kc_90_22 rfl A20 (by decide) rfl (xi_in (by decide) (by rw [hy20]; decide)) ev21 ?_
    refine xi_iconst (pc' := 24) (v := 1) kc_90_23 rfl rfl ?_
    refine xcps2 (α := Int32) ((v21 : Int32) + 1) (fun v22 ev22 => ?_)
    have rv22 := xc_rng v22
    refine xi_iadd (pc' := 25) (v := v22) kc_90_24 rfl ev22 ?_
    refine xcps4 (xj_set (v := v22) hy20 ry20 4 (by first | omega | decide) (by first | omega | decide)) (fun y23 s23 hy23 ry23 => ?_)
    refine xi_iastore (pc' := 26) (x' := y23) kc_90_25 rfl A20 rfl (xi_in (by decide) (by rw [hy20]; decide)) s23 (fun hh23 eh23 => ?_)
    have K24 := xk_pa K (xk_wa rfl) xD_94 hy23 ry23 eh23
    refine xi_iload_n (pc' := 27) (x := (-4)) kc_90_26 rfl rfl ?_
    refine xi_ireturn kc_90_27 mr_90 rfl ?_
    show xw J ov (d + 6) 121 (11, [(0, .ref 0), (1, .int x1)], [.int (-4)], hh23) _
    refine xi_ireturn kc_121_11 mr_121 rfl ?_
    have zcm4 : ((-4) : Int32).toInt = (-4) := by decide
    have A25 := ((eh23.2.1 0 (by decide)).trans A3)
    exact kk (-4) hh23 (by omega) (fun v e => by have e2 := xl_val (u := u2) A25 rfl e; subst e2; omega) K24
set_option maxHeartbeats 4000000 in
theorem mt_126_1 {J : xe_J} {ov : List (List Int32)} (hJ : ∀ d mj as h, mj ≠ xe_loff → J d mj as h = none) (hov1 : ov[1]? = some [10, 0, 0, 0, 0, 0]) (hov2 : ov[2]? = some [99, 30, 50, 50, 1, 99999]) {d : Nat} {Q : Option Value → xe_H → Prop} {h : xe_H} {x2 : Int32} {x3 : Int32} (T : xt h) (b2 : (0 ≤ x2.toInt ∧ x2.toInt ≤ 9)) (b3 : (0 ≤ x3.toInt ∧ x3.toInt ≤ 599)) (kk : (∀ (r : Int32) (h' : xe_H), (0 ≤ r.toInt ∧ r.toInt ≤ 1) → xk [(0, 9), (115, 1), (83, 0), (29, 0), (31, 0), (33, 0), (35, 0), (37, 0), (39, 0), (41, 0), (43, 0), (45, 0), (47, 0), (49, 0), (51, 0), (125, 0), (66, 8), (115, 18), (71, 0), (132, 0)] h h' → Q (some (.int r)) h')) : xw J ov (d + 1) 126 (0, [(0, .ref 1), (1, .ref 67), (2, .int x2), (3, .int x3)], [], h) Q := by
  have K : xk [(0, 9), (115, 1), (83, 0), (29, 0), (31, 0), (33, 0), (35, 0), (37, 0), (39, 0), (41, 0), (43, 0), (45, 0), (47, 0), (49, 0), (51, 0), (125, 0), (66, 8), (115, 18), (71, 0), (132, 0)] h h := xk_re T
  refine xi_aload_n (pc' := 1) (x := 67) kc_126_0 rfl rfl ?_
  refine xp_67 K.1 (fun u1 u2 bu1 bu2 A3 => ?_)
  refine xi_getfield (pc' := 4) (v := .int u1) kc_126_1 rfl rfl rfl A3 rfl ?_
  refine xi_iload_n (pc' := 5) (x := x2) kc_126_4 rfl rfl ?_
  refine xcps2 (α := Int32) ((u1 : Int32) >>> (x2 &&& 31)) (fun v4 ev4 => ?_)
  have rv4 := xc_rng v4
  refine xi_ishr (pc' := 6) (v := v4) kc_126_5 rfl ev4 ?_
  refine xi_iconst (pc' := 7) (v := 1) kc_126_6 rfl rfl ?_
  refine xcps2 (α := Int32) ((v4 : Int32) &&& 1) (fun v5 ev5 => ?_)
  have rv5 := xc_rng v5
  refine xi_iand (pc' := 8) (v := v5) kc_126_7 rfl ev5 ?_
  by_cases c6 : v5.toInt = 0
  · refine xi_ift (pc' := 28) kc_126_8 rfl (xc_eq_t (X := v5.toInt) (Y := 0) rfl (by decide) (by omega)) ?_
    refine xi_iconst (pc' := 29) (v := 0) kc_126_28 rfl rfl ?_
    refine xi_ireturn kc_126_29 mr_126 rfl ?_
    have zc0 : (0 : Int32).toInt = 0 := by decide
    exact kk 0 h (by omega) K
  · refine xi_iff (pc' := 11) kc_126_8 rfl (xc_eq_f (X := v5.toInt) (Y := 0) rfl (by decide) (by omega)) ?_
    refine xi_iload_n (pc' := 12) (x := x3) kc_126_11 rfl rfl ?_
    refine xi_aload_n (pc' := 13) (x := 1) kc_126_12 rfl rfl ?_
    refine xp_1 K.1 (fun u7 u8 bu7 bu8 A9 => ?_)
    refine xi_getfield (pc' := 16) (v := .ref 4) kc_126_13 rfl rfl rfl A9 rfl ?_
    refine xi_iload_n (pc' := 17) (x := x2) kc_126_16 rfl rfl ?_
    have A10 := xk_ex K.1 xD_4
    obtain ⟨pt11, ept11, mpt11⟩ := xR_4 (i := x2) (by omega) (by omega)
    refine xj_aaload (pc' := 18) (b := pt11) kc_126_17 rfl A10 rfl (xi_in (n := 10) (by omega) (by omega)) ept11 ?_
    obtain ⟨u12, u13, u14, u15, bu12, bu13, bu14, bu15, A16⟩ := xg_cause K.1 mpt11
    refine xi_getfield (pc' := 21) (v := .int u15) kc_126_18 rfl rfl rfl A16 rfl ?_
    by_cases c17 : x3.toInt < u15.toInt
    · refine xi_cmt (pc' := 28) kc_126_21 rfl (xc_lt_t (X := x3.toInt) (Y := u15.toInt) rfl rfl (by omega)) ?_
      refine xi_iconst (pc' := 29) (v := 0) kc_126_28 rfl rfl ?_
      refine xi_ireturn kc_126_29 mr_126 rfl ?_
      have zc0 : (0 : Int32).toInt = 0 := by decide
      exact kk 0 h (by omega) K
    · refine xi_cmf (pc' := 24) kc_126_21 rfl (xc_lt_f (X := x3.toInt) (Y := u15.toInt) rfl rfl (by omega)) ?_
      refine xi_iconst (pc' := 25) (v := 1) kc_126_24 rfl rfl ?_
      refine xi_goto (pc' := 29) kc_126_25 rfl ?_
      refine xi_ireturn kc_126_29 mr_126 rfl ?_
      have zc1 : (1 : Int32).toInt = 1 := by decide
      exact kk 1 h (by omega) K
set_option maxHeartbeats 4000000 in
theorem mt_127_1 {J : xe_J} {ov : List (List Int32)} (hJ : ∀ d mj as h, mj ≠ xe_loff → J d mj as h = none) (hov1 : ov[1]? = some [10, 0, 0, 0, 0, 0]) (hov2 : ov[2]? = some [99, 30, 50, 50, 1, 99999]) {d : Nat} {Q : Option Value → xe_H → Prop} {h : xe_H} {x1 : Int32} {x2 : Int32} (T : xt h) (kk : (∀ h' : xe_H, xk [(0, 9), (115, 1), (83, 0), (29, 0), (31, 0), (33, 0), (35, 0), (37, 0), (39, 0), (41, 0), (43, 0), (45, 0), (47, 0), (49, 0), (51, 0), (125, 0), (66, 8), (115, 18), (71, 0), (132, 0)] h h' → Q none h')) : xw J ov (d + 1) 127 (0, [(0, .ref 67), (1, .int x1), (2, .int x2)], [], h) Q := by
  have K : xk [(0, 9), (115, 1), (83, 0), (29, 0), (31, 0), (33, 0), (35, 0), (37, 0), (39, 0), (41, 0), (43, 0), (45, 0), (47, 0), (49, 0), (51, 0), (125, 0), (66, 8), (115, 18), (71, 0), (132, 0)] h h := xk_re T
  have rx1 := xc_rng x1
  have rx2 := xc_rng x2
  refine xi_iload_n (pc' := 1) (x := x1) kc_127_0 rfl rfl ?_
  by_cases c1 : x1.toInt < 0
  · refine xi_ift (pc' := 40) kc_127_1 rfl (xc_lt_t (X := x1.toInt) (Y := 0) rfl (by decide) (by omega)) ?_
    refine xi_return kc_127_40 mr_127 ?_
    exact kk h K
  · refine xi_iff (pc' := 4) kc_127_1 rfl (xc_lt_f (X := x1.toInt) (Y := 0) rfl (by decide) (by omega)) ?_
    refine xi_iload_n (pc' := 5) (x := x1) kc_127_4 rfl rfl ?_
    refine xi_aload_n (pc' := 6) (x := 67) kc_127_5 rfl rfl ?_
    refine xp_67 K.1 (fun u2 u3 bu2 bu3 A4 => ?_)
    refine xi_getfield (pc' := 9) (v := .ref 68) kc_127_6 rfl rfl rfl A4 rfl ?_
    refine xcps4 (xk_arr K.1 xD_68) (fun y5 A5 hy5 ry5 => ?_)
    refine xi_arraylength (pc' := 10) (n := 6) (v := 6) kc_127_9 rfl (xl_lenI (by decide) (by decide) A5 hy5) rfl ?_
    by_cases c6 : 6 ≤ x1.toInt
    · refine xi_cmt (pc' := 40) kc_127_10 rfl (xc_ge_t (X := x1.toInt) (Y := 6) rfl (by decide) (by omega)) ?_
      refine xi_return kc_127_40 mr_127 ?_
      exact kk h K
    · refine xi_cmf (pc' := 13) kc_127_10 rfl (xc_ge_f (X := x1.toInt) (Y := 6) rfl (by decide) (by omega)) ?_
      refine xi_aload_n (pc' := 14) (x := 67) kc_127_13 rfl rfl ?_
      refine xi_getfield (pc' := 17) (v := .ref 68) kc_127_14 rfl rfl rfl A4 rfl ?_
      refine xi_iload_n (pc' := 18) (x := x1) kc_127_17 rfl rfl ?_
      refine xcps4 (xj_get hy5 ry5 (i := x1) (by omega) (by omega)) (fun v7 ev7 bv7 dv7 => ?_)
      refine xi_iaload (pc' := 19) (v := v7) kc_127_18 rfl A5 (by decide) rfl (xi_in (by omega) (by rw [hy5]; omega)) ev7 ?_
      refine xi_iload_n (pc' := 20) (x := x2) kc_127_19 rfl rfl ?_
      refine xcps2 (α := Int32) ((v7 : Int32) + x2) (fun v8 ev8 => ?_)
      have rv8 := xc_rng v8
      refine xi_iadd (pc' := 21) (v := v8) kc_127_20 rfl ev8 ?_
      refine xi_istore_n (pc' := 22) (lv' := [(3, .int v8), (0, .ref 67), (1, .int x1), (2, .int x2)]) kc_127_21 rfl rfl (xm_lt ml_127 rfl) ?_
      refine xi_aload_n (pc' := 23) (x := 67) kc_127_22 rfl rfl ?_
      refine xi_getfield (pc' := 26) (v := .ref 68) kc_127_23 rfl rfl rfl A4 rfl ?_
      refine xi_iload_n (pc' := 27) (x := x1) kc_127_26 rfl rfl ?_
      refine xi_iload_n (pc' := 28) (x := v8) kc_127_27 rfl rfl ?_
      refine xi_ldc (pc' := 30) (v := 99999) kc_127_28 rfl rfl ?_
      by_cases c9 : v8.toInt ≤ 99999
      · refine xi_cmt (pc' := 38) kc_127_30 rfl (xc_le_t (X := v8.toInt) (Y := 99999) rfl (by decide) (by omega)) ?_
        refine xi_iload_n (pc' := 39) (x := v8) kc_127_38 rfl rfl ?_
        refine xcps4 (xj_set (v := v8) hy5 ry5 x1 (by first | omega | decide) (by first | omega | decide)) (fun y10 s10 hy10 ry10 => ?_)
        refine xi_iastore (pc' := 40) (x' := y10) kc_127_39 rfl A5 rfl (xi_in (by omega) (by rw [hy5]; omega)) s10 (fun hh10 eh10 => ?_)
        have K11 := xk_pa K (xk_wa rfl) xD_68 hy10 ry10 eh10
        refine xi_return kc_127_40 mr_127 ?_
        exact kk hh10 K11
      · refine xi_cmf (pc' := 33) kc_127_30 rfl (xc_le_f (X := v8.toInt) (Y := 99999) rfl (by decide) (by omega)) ?_
        refine xi_ldc (pc' := 35) (v := 99999) kc_127_33 rfl rfl ?_
        refine xi_goto (pc' := 39) kc_127_35 rfl ?_
        refine xcps4 (xj_set (v := 99999) hy5 ry5 x1 (by first | omega | decide) (by first | omega | decide)) (fun y12 s12 hy12 ry12 => ?_)
        refine xi_iastore (pc' := 40) (x' := y12) kc_127_39 rfl A5 rfl (xi_in (by omega) (by rw [hy5]; omega)) s12 (fun hh12 eh12 => ?_)
        have K13 := xk_pa K (xk_wa rfl) xD_68 hy12 ry12 eh12
        refine xi_return kc_127_40 mr_127 ?_
        exact kk hh12 K13
set_option maxHeartbeats 4000000 in
theorem lp_125_1 {J : xe_J} {ov : List (List Int32)} (hJ : ∀ d mj as h, mj ≠ xe_loff → J d mj as h = none) (hov1 : ov[1]? = some [10, 0, 0, 0, 0, 0]) (hov2 : ov[2]? = some [99, 30, 50, 50, 1, 99999]) {d : Nat} {Q : Option Value → xe_H → Prop} {hb : xe_H} (kk : (∀ h' : xe_H, xk [(0, 9), (115, 1), (83, 0), (29, 0), (31, 0), (33, 0), (35, 0), (37, 0), (39, 0), (41, 0), (43, 0), (45, 0), (47, 0), (49, 0), (51, 0), (125, 0), (66, 8), (115, 18), (71, 0), (132, 0)] hb h' → Q none h')) : ∀ m : Nat, (∀ (x2 : Int32) (x3 : Int32) (h : xe_H), (0 ≤ x2.toInt ∧ x2.toInt ≤ 599) → (0 ≤ x3.toInt ∧ x3.toInt ≤ 10) → xk [(0, 9), (115, 1), (83, 0), (29, 0), (31, 0), (33, 0), (35, 0), (37, 0), (39, 0), (41, 0), (43, 0), (45, 0), (47, 0), (49, 0), (51, 0), (125, 0), (66, 8), (115, 18), (71, 0), (132, 0)] hb h → (-1) * x3.toInt + 10 < (m : Int) → xw J ov (d + 2) 125 (2, [(0, .ref 1), (1, .ref 67), (2, .int x2), (3, .int x3)], [], h) Q) := by
  intro m
  induction m with
  | zero =>
    intro x2 x3 h b2 b3 K hm; exfalso; omega
  | succ m ih =>
    have i0 := ih
    intro x2 x3 h b2 b3 K hm
    refine xi_iload_n (pc' := 3) (x := x3) kc_125_2 rfl rfl ?_
    refine xi_aload_n (pc' := 4) (x := 1) kc_125_3 rfl rfl ?_
    refine xp_1 K.1 (fun u1 u2 bu1 bu2 A3 => ?_)
    refine xi_getfield (pc' := 7) (v := .int u1) kc_125_4 rfl rfl rfl A3 rfl ?_
    by_cases c4 : u1.toInt ≤ x3.toInt
    · refine xi_cmt (pc' := 67) kc_125_7 rfl (xc_ge_t (X := x3.toInt) (Y := u1.toInt) rfl rfl (by omega)) ?_
      refine xi_return kc_125_67 mr_125 ?_
      exact kk h K
    · refine xi_cmf (pc' := 10) kc_125_7 rfl (xc_ge_f (X := x3.toInt) (Y := u1.toInt) rfl rfl (by omega)) ?_
      refine xi_iload_n (pc' := 11) (x := x3) kc_125_10 rfl rfl ?_
      refine xi_bipush (pc' := 13) (v := 10) kc_125_11 rfl rfl ?_
      refine xi_cmf (pc' := 16) kc_125_13 rfl (xc_ge_f (X := x3.toInt) (Y := 10) rfl (by decide) (by omega)) ?_
      refine xi_aload_n (pc' := 17) (x := 1) kc_125_16 rfl rfl ?_
      refine xi_getfield (pc' := 20) (v := .ref 4) kc_125_17 rfl rfl rfl A3 rfl ?_
      refine xi_iload_n (pc' := 21) (x := x3) kc_125_20 rfl rfl ?_
      have A5 := xk_ex K.1 xD_4
      obtain ⟨pt6, ept6, mpt6⟩ := xR_4 (i := x3) (by omega) (by omega)
      refine xj_aaload (pc' := 22) (b := pt6) kc_125_21 rfl A5 rfl (xi_in (n := 10) (by omega) (by omega)) ept6 ?_
      obtain ⟨u7, u8, u9, u10, bu7, bu8, bu9, bu10, A11⟩ := xg_cause K.1 mpt6
      refine xi_getfield (pc' := 25) (v := .int u7) kc_125_22 rfl rfl rfl A11 rfl ?_
      refine xi_iconst (pc' := 26) (v := 3) kc_125_25 rfl rfl ?_
      by_cases c12 : u7.toInt = 3
      · refine xi_cmf (pc' := 29) kc_125_26 rfl (xc_ne_f (X := u7.toInt) (Y := 3) rfl (by decide) (by omega)) ?_
        refine xi_aload_n (pc' := 30) (x := 1) kc_125_29 rfl rfl ?_
        refine xi_aload_n (pc' := 31) (x := 67) kc_125_30 rfl rfl ?_
        refine xi_iload_n (pc' := 32) (x := x3) kc_125_31 rfl rfl ?_
        refine xi_iload_n (pc' := 33) (x := x2) kc_125_32 rfl rfl ?_
        refine xi_virtual (mj := 126) (as := [.ref 67, .int x3, .int x2]) (st1 := []) (lv0 := [(0, .ref 1), (1, .ref 67), (2, .int x3), (3, .int x2)]) kc_125_33 rfl rfl rfl rfl rfl A3 (Nat.le_of_ble_eq_true rfl) (hJ _ _ _ _ (by decide)) (xm_le ml_126 rfl) rfl ?_
        refine mt_126_1 hJ hov1 hov2 (d := d) (x2 := x3) (x3 := x2) K.1 (by first | omega | decide) (by first | omega | decide) (fun r13 hh14 br13 K15 => ?_)
        have K16 := xk_tr K K15 rfl
        show xw J ov (d + 2) 125 (36, [(0, .ref 1), (1, .ref 67), (2, .int x2), (3, .int x3)], [.int r13], hh14) _
        by_cases c17 : r13.toInt = 0
        · refine xi_ift (pc' := 61) kc_125_36 rfl (xc_eq_t (X := r13.toInt) (Y := 0) rfl (by decide) (by omega)) ?_
          refine xcps2 (α := Int32) (x3 + 1) (fun v18 ev18 => ?_)
          have zv18 : v18.toInt = (x3.toInt + 1) := by rw [← ev18]; exact (xz_add (X := x3.toInt) (Y := 1) rfl (by decide) (by omega) (by omega)).trans (by omega)
          refine xi_iinc (pc' := 64) (x := x3) (v := v18) (lv' := [(3, .int v18), (0, .ref 1), (1, .ref 67), (2, .int x2)]) kc_125_61 rfl rfl ev18 rfl (xm_lt ml_125 rfl) ?_
          refine xi_goto (pc' := 2) kc_125_64 rfl ?_
          refine xw_lv (b := [(0, .ref 1), (1, .ref 67), (2, .int x2), (3, .int v18)]) (lvS_cons (lvS_cons (lvS_cons (lvS_cons (lvS_nil (show ([3, 0, 1, 2] : List Nat).Nodup by decide)) rfl) rfl) rfl) rfl) ?_
          exact i0 x2 v18 hh14 (by omega) (by omega) K16 (by omega)
        · refine xi_iff (pc' := 39) kc_125_36 rfl (xc_eq_f (X := r13.toInt) (Y := 0) rfl (by decide) (by omega)) ?_
          refine xi_aload_n (pc' := 40) (x := 67) kc_125_39 rfl rfl ?_
          refine xi_aload_n (pc' := 41) (x := 1) kc_125_40 rfl rfl ?_
          refine xp_1 K16.1 (fun u19 u20 bu19 bu20 A21 => ?_)
          refine xi_getfield (pc' := 44) (v := .ref 4) kc_125_41 rfl rfl rfl A21 rfl ?_
          refine xi_iload_n (pc' := 45) (x := x3) kc_125_44 rfl rfl ?_
          have A22 := xk_ex K16.1 xD_4
          refine xj_aaload (pc' := 46) (b := pt6) kc_125_45 rfl A22 rfl (xi_in (n := 10) (by omega) (by omega)) ept6 ?_
          obtain ⟨u23, u24, u25, u26, bu23, bu24, bu25, bu26, A27⟩ := xg_cause K16.1 mpt6
          refine xi_getfield (pc' := 49) (v := .int u24) kc_125_46 rfl rfl rfl A27 rfl ?_
          refine xi_aload_n (pc' := 50) (x := 1) kc_125_49 rfl rfl ?_
          refine xi_getfield (pc' := 53) (v := .ref 4) kc_125_50 rfl rfl rfl A21 rfl ?_
          refine xi_iload_n (pc' := 54) (x := x3) kc_125_53 rfl rfl ?_
          refine xj_aaload (pc' := 55) (b := pt6) kc_125_54 rfl A22 rfl (xi_in (n := 10) (by omega) (by omega)) ept6 ?_
          refine xi_getfield (pc' := 58) (v := .int u25) kc_125_55 rfl rfl rfl A27 rfl ?_
          refine xp_67 K16.1 (fun u28 u29 bu28 bu29 A30 => ?_)
          refine xi_virtual (mj := 127) (as := [.int u24, .int u25]) (st1 := []) (lv0 := [(0, .ref 67), (1, .int u24), (2, .int u25)]) kc_125_58 rfl rfl rfl rfl rfl A30 (Nat.le_of_ble_eq_true rfl) (hJ _ _ _ _ (by decide)) (xm_le ml_127 rfl) rfl ?_
          refine mt_127_1 hJ hov1 hov2 (d := d) (x1 := u24) (x2 := u25) K16.1 (fun hh32 K33 => ?_)
          have K34 := xk_tr K16 K33 rfl
          show xw J ov (d + 2) 125 (61, [(0, .ref 1), (1, .ref 67), (2, .int x2), (3, .int x3)], [], hh32) _
          refine xcps2 (α := Int32) (x3 + 1) (fun v35 ev35 => ?_)
          have zv35 : v35.toInt = (x3.toInt + 1) := by rw [← ev35]; exact (xz_add (X := x3.toInt) (Y := 1) rfl (by decide) (by omega) (by omega)).trans (by omega)
          refine xi_iinc (pc' := 64) (x := x3) (v := v35) (lv' := [(3, .int v35), (0, .ref 1), (1, .ref 67), (2, .int x2)]) kc_125_61 rfl rfl ev35 rfl (xm_lt ml_125 rfl) ?_
          refine xi_goto (pc' := 2) kc_125_64 rfl ?_
          refine xw_lv (b := [(0, .ref 1), (1, .ref 67), (2, .int x2), (3, .int v35)]) (lvS_cons (lvS_cons (lvS_cons (lvS_cons (lvS_nil (show ([3, 0, 1, 2] : List Nat).Nodup by decide)) rfl) rfl) rfl) rfl) ?_
          exact i0 x2 v35 hh32 (by omega) (by omega) K34 (by omega)
      · refine xi_cmt (pc' := 61) kc_125_26 rfl (xc_ne_t (X := u7.toInt) (Y := 3) rfl (by decide) (by omega)) ?_
        refine xcps2 (α := Int32) (x3 + 1) (fun v36 ev36 => ?_)
        have zv36 : v36.toInt = (x3.toInt + 1) := by rw [← ev36]; exact (xz_add (X := x3.toInt) (Y := 1) rfl (by decide) (by omega) (by omega)).trans (by omega)
        refine xi_iinc (pc' := 64) (x := x3) (v := v36) (lv' := [(3, .int v36), (0, .ref 1), (1, .ref 67), (2, .int x2)]) kc_125_61 rfl rfl ev36 rfl (xm_lt ml_125 rfl) ?_
        refine xi_goto (pc' := 2) kc_125_64 rfl ?_
        refine xw_lv (b := [(0, .ref 1), (1, .ref 67), (2, .int x2), (3, .int v36)]) (lvS_cons (lvS_cons (lvS_cons (lvS_cons (lvS_nil (show ([3, 0, 1, 2] : List Nat).Nodup by decide)) rfl) rfl) rfl) rfl) ?_
        exact i0 x2 v36 h (by omega) (by omega) K (by omega)
set_option maxHeartbeats 4000000 in
theorem mt_125_1 {J : xe_J} {ov : List (List Int32)} (hJ : ∀ d mj as h, mj ≠ xe_loff → J d mj as h = none) (hov1 : ov[1]? = some [10, 0, 0, 0, 0, 0]) (hov2 : ov[2]? = some [99, 30, 50, 50, 1, 99999]) {d : Nat} {Q : Option Value → xe_H → Prop} {h : xe_H} {x2 : Int32} (T : xt h) (b2 : (0 ≤ x2.toInt ∧ x2.toInt ≤ 599)) (kk : (∀ h' : xe_H, xk [(0, 9), (115, 1), (83, 0), (29, 0), (31, 0), (33, 0), (35, 0), (37, 0), (39, 0), (41, 0), (43, 0), (45, 0), (47, 0), (49, 0), (51, 0), (125, 0), (66, 8), (115, 18), (71, 0), (132, 0)] h h' → Q none h')) : xw J ov (d + 2) 125 (0, [(0, .ref 1), (1, .ref 67), (2, .int x2)], [], h) Q := by
  have K : xk [(0, 9), (115, 1), (83, 0), (29, 0), (31, 0), (33, 0), (35, 0), (37, 0), (39, 0), (41, 0), (43, 0), (45, 0), (47, 0), (49, 0), (51, 0), (125, 0), (66, 8), (115, 18), (71, 0), (132, 0)] h h := xk_re T
  refine xi_iconst (pc' := 1) (v := 0) kc_125_0 rfl rfl ?_
  refine xi_istore_n (pc' := 2) (lv' := [(3, .int 0), (0, .ref 1), (1, .ref 67), (2, .int x2)]) kc_125_1 rfl rfl (xm_lt ml_125 rfl) ?_
  have zc0 : (0 : Int32).toInt = 0 := by decide
  refine xw_lv (b := [(0, .ref 1), (1, .ref 67), (2, .int x2), (3, .int 0)]) (lvS_cons (lvS_cons (lvS_cons (lvS_cons (lvS_nil (show ([3, 0, 1, 2] : List Nat).Nodup by decide)) rfl) rfl) rfl) rfl) ?_
  exact (lp_125_1 hJ hov1 hov2 (d := d) (hb := h) (fun h9 K9 => kk h9 (xk_tr K K9 rfl)) 11) x2 0 h (by omega) (by omega) (xk_re K.1) (by omega)
set_option maxHeartbeats 4000000 in
theorem mt_131_1 {J : xe_J} {ov : List (List Int32)} (hJ : ∀ d mj as h, mj ≠ xe_loff → J d mj as h = none) (hov1 : ov[1]? = some [10, 0, 0, 0, 0, 0]) (hov2 : ov[2]? = some [99, 30, 50, 50, 1, 99999]) {d : Nat} {Q : Option Value → xe_H → Prop} {h : xe_H} {x1 : Int32} {x2 : Int32} (T : xt h) (kk : (∀ h' : xe_H, xk [(0, 9), (115, 1), (83, 0), (29, 0), (31, 0), (33, 0), (35, 0), (37, 0), (39, 0), (41, 0), (43, 0), (45, 0), (47, 0), (49, 0), (51, 0), (125, 0), (66, 8), (115, 18), (71, 0), (132, 0)] h h' → Q none h')) : xw J ov (d + 1) 131 (0, [(0, .ref 67), (1, .int x1), (2, .int x2)], [], h) Q := by
  have K : xk [(0, 9), (115, 1), (83, 0), (29, 0), (31, 0), (33, 0), (35, 0), (37, 0), (39, 0), (41, 0), (43, 0), (45, 0), (47, 0), (49, 0), (51, 0), (125, 0), (66, 8), (115, 18), (71, 0), (132, 0)] h h := xk_re T
  have rx1 := xc_rng x1
  have rx2 := xc_rng x2
  refine xi_iload_n (pc' := 1) (x := x1) kc_131_0 rfl rfl ?_
  by_cases c1 : x1.toInt < 0
  · refine xi_ift (pc' := 40) kc_131_1 rfl (xc_lt_t (X := x1.toInt) (Y := 0) rfl (by decide) (by omega)) ?_
    refine xi_return kc_131_40 mr_131 ?_
    exact kk h K
  · refine xi_iff (pc' := 4) kc_131_1 rfl (xc_lt_f (X := x1.toInt) (Y := 0) rfl (by decide) (by omega)) ?_
    refine xi_iload_n (pc' := 5) (x := x1) kc_131_4 rfl rfl ?_
    refine xi_aload_n (pc' := 6) (x := 67) kc_131_5 rfl rfl ?_
    refine xp_67 K.1 (fun u2 u3 bu2 bu3 A4 => ?_)
    refine xi_getfield (pc' := 9) (v := .ref 69) kc_131_6 rfl rfl rfl A4 rfl ?_
    refine xcps4 (xk_arr K.1 xD_69) (fun y5 A5 hy5 ry5 => ?_)
    refine xi_arraylength (pc' := 10) (n := 12) (v := 12) kc_131_9 rfl (xl_lenI (by decide) (by decide) A5 hy5) rfl ?_
    by_cases c6 : 12 ≤ x1.toInt
    · refine xi_cmt (pc' := 40) kc_131_10 rfl (xc_ge_t (X := x1.toInt) (Y := 12) rfl (by decide) (by omega)) ?_
      refine xi_return kc_131_40 mr_131 ?_
      exact kk h K
    · refine xi_cmf (pc' := 13) kc_131_10 rfl (xc_ge_f (X := x1.toInt) (Y := 12) rfl (by decide) (by omega)) ?_
      refine xi_aload_n (pc' := 14) (x := 67) kc_131_13 rfl rfl ?_
      refine xi_getfield (pc' := 17) (v := .ref 69) kc_131_14 rfl rfl rfl A4 rfl ?_
      refine xi_iload_n (pc' := 18) (x := x1) kc_131_17 rfl rfl ?_
      refine xcps4 (xj_get hy5 ry5 (i := x1) (by omega) (by omega)) (fun v7 ev7 bv7 dv7 => ?_)
      refine xi_iaload (pc' := 19) (v := v7) kc_131_18 rfl A5 (by decide) rfl (xi_in (by omega) (by rw [hy5]; omega)) ev7 ?_
      refine xi_iload_n (pc' := 20) (x := x2) kc_131_19 rfl rfl ?_
      refine xcps2 (α := Int32) ((v7 : Int32) + x2) (fun v8 ev8 => ?_)
      have rv8 := xc_rng v8
      refine xi_iadd (pc' := 21) (v := v8) kc_131_20 rfl ev8 ?_
      refine xi_istore_n (pc' := 22) (lv' := [(3, .int v8), (0, .ref 67), (1, .int x1), (2, .int x2)]) kc_131_21 rfl rfl (xm_lt ml_131 rfl) ?_
      refine xi_aload_n (pc' := 23) (x := 67) kc_131_22 rfl rfl ?_
      refine xi_getfield (pc' := 26) (v := .ref 69) kc_131_23 rfl rfl rfl A4 rfl ?_
      refine xi_iload_n (pc' := 27) (x := x1) kc_131_26 rfl rfl ?_
      refine xi_iload_n (pc' := 28) (x := v8) kc_131_27 rfl rfl ?_
      refine xi_ldc (pc' := 30) (v := 99999) kc_131_28 rfl rfl ?_
      by_cases c9 : v8.toInt ≤ 99999
      · refine xi_cmt (pc' := 38) kc_131_30 rfl (xc_le_t (X := v8.toInt) (Y := 99999) rfl (by decide) (by omega)) ?_
        refine xi_iload_n (pc' := 39) (x := v8) kc_131_38 rfl rfl ?_
        refine xcps4 (xj_set (v := v8) hy5 ry5 x1 (by first | omega | decide) (by first | omega | decide)) (fun y10 s10 hy10 ry10 => ?_)
        refine xi_iastore (pc' := 40) (x' := y10) kc_131_39 rfl A5 rfl (xi_in (by omega) (by rw [hy5]; omega)) s10 (fun hh10 eh10 => ?_)
        have K11 := xk_pa K (xk_wa rfl) xD_69 hy10 ry10 eh10
        refine xi_return kc_131_40 mr_131 ?_
        exact kk hh10 K11
      · refine xi_cmf (pc' := 33) kc_131_30 rfl (xc_le_f (X := v8.toInt) (Y := 99999) rfl (by decide) (by omega)) ?_
        refine xi_ldc (pc' := 35) (v := 99999) kc_131_33 rfl rfl ?_
        refine xi_goto (pc' := 39) kc_131_35 rfl ?_
        refine xcps4 (xj_set (v := 99999) hy5 ry5 x1 (by first | omega | decide) (by first | omega | decide)) (fun y12 s12 hy12 ry12 => ?_)
        refine xi_iastore (pc' := 40) (x' := y12) kc_131_39 rfl A5 rfl (xi_in (by omega) (by rw [hy5]; omega)) s12 (fun hh12 eh12 => ?_)
        have K13 := xk_pa K (xk_wa rfl) xD_69 hy12 ry12 eh12
        refine xi_return kc_131_40 mr_131 ?_
        exact kk hh12 K13
set_option maxHeartbeats 4000000 in
theorem lp_130_1 {J : xe_J} {ov : List (List Int32)} (hJ : ∀ d mj as h, mj ≠ xe_loff → J d mj as h = none) (hov1 : ov[1]? = some [10, 0, 0, 0, 0, 0]) (hov2 : ov[2]? = some [99, 30, 50, 50, 1, 99999]) {d : Nat} {Q : Option Value → xe_H → Prop} {hb : xe_H} (kk : (∀ h' : xe_H, xk [(0, 9), (115, 1), (83, 0), (29, 0), (31, 0), (33, 0), (35, 0), (37, 0), (39, 0), (41, 0), (43, 0), (45, 0), (47, 0), (49, 0), (51, 0), (125, 0), (66, 8), (115, 18), (71, 0), (132, 0)] hb h' → Q none h')) : ∀ m : Nat, (∀ (x2 : Int32) (x3 : Int32) (x4 : Int32) (x5 : Int32) (x6 : Int32) (x7 : Int32) (h : xe_H), (0 ≤ x2.toInt ∧ x2.toInt ≤ 5) → ((-9) ≤ x5.toInt ∧ x5.toInt ≤ 11) → ((-1) ≤ x7.toInt ∧ x7.toInt ≤ 11) → xk [(0, 9), (115, 1), (83, 0), (29, 0), (31, 0), (33, 0), (35, 0), (37, 0), (39, 0), (41, 0), (43, 0), (45, 0), (47, 0), (49, 0), (51, 0), (125, 0), (66, 8), (115, 18), (71, 0), (132, 0)] hb h → (1) * x7.toInt + 14 < (m : Int) → xw J ov (d + 2) 130 (11, [(0, .ref 1), (1, .ref 67), (2, .int x2), (3, .int x3), (4, .int x4), (5, .int x5), (6, .int x6), (7, .int x7)], [], h) Q) ∧ (∀ (x2 : Int32) (x3 : Int32) (x4 : Int32) (x5 : Int32) (x6 : Int32) (x7 : Int32) (x8 : Int32) (h : xe_H), (0 ≤ x2.toInt ∧ x2.toInt ≤ 5) → ((-9) ≤ x5.toInt ∧ x5.toInt ≤ 11) → (0 ≤ x8.toInt ∧ x8.toInt ≤ 12) → xk [(0, 9), (115, 1), (83, 0), (29, 0), (31, 0), (33, 0), (35, 0), (37, 0), (39, 0), (41, 0), (43, 0), (45, 0), (47, 0), (49, 0), (51, 0), (125, 0), (66, 8), (115, 18), (71, 0), (132, 0)] hb h → (-1) * x8.toInt + 12 < (m : Int) → xw J ov (d + 2) 130 (63, [(0, .ref 1), (1, .ref 67), (2, .int x2), (3, .int x3), (4, .int x4), (5, .int x5), (6, .int x6), (7, .int x7), (8, .int x8)], [], h) Q) := by
  intro m
  induction m with
  | zero =>
    refine ⟨?_, ?_⟩
    · intro x2 x3 x4 x5 x6 x7 h b2 b5 b7 K hm; have rx3 := xc_rng x3; have rx4 := xc_rng x4; have rx6 := xc_rng x6; exfalso; omega
    · intro x2 x3 x4 x5 x6 x7 x8 h b2 b5 b8 K hm; have rx3 := xc_rng x3; have rx4 := xc_rng x4; have rx6 := xc_rng x6; have rx7 := xc_rng x7; exfalso; omega
  | succ m ih =>
    obtain ⟨i0, i1⟩ := ih
    refine ⟨?_, ?_⟩
    · intro x2 x3 x4 x5 x6 x7 h b2 b5 b7 K hm
      have rx3 := xc_rng x3
      have rx4 := xc_rng x4
      have rx6 := xc_rng x6
      refine xi_iload (pc' := 13) (x := x7) kc_130_11 rfl rfl ?_
      by_cases c1 : x7.toInt < 0
      · refine xi_ift (pc' := 57) kc_130_13 rfl (xc_lt_t (X := x7.toInt) (Y := 0) rfl (by decide) (by omega)) ?_
        refine xi_iload_n (pc' := 58) (x := x3) kc_130_57 rfl rfl ?_
        refine xi_istore (pc' := 60) (lv' := [(7, .int x3), (0, .ref 1), (1, .ref 67), (2, .int x2), (3, .int x3), (4, .int x4), (5, .int x5), (6, .int x6)]) kc_130_58 rfl rfl (xm_lt ml_130 rfl) ?_
        refine xi_iconst (pc' := 61) (v := 0) kc_130_60 rfl rfl ?_
        refine xi_istore (pc' := 63) (lv' := [(8, .int 0), (7, .int x3), (0, .ref 1), (1, .ref 67), (2, .int x2), (3, .int x3), (4, .int x4), (5, .int x5), (6, .int x6)]) kc_130_61 rfl rfl (xm_lt ml_130 rfl) ?_
        have zc0 : (0 : Int32).toInt = 0 := by decide
        refine xw_lv (b := [(0, .ref 1), (1, .ref 67), (2, .int x2), (3, .int x3), (4, .int x4), (5, .int x5), (6, .int x6), (7, .int x3), (8, .int 0)]) (lvS_cons (lvS_cons (lvS_cons (lvS_cons (lvS_cons (lvS_cons (lvS_cons (lvS_cons (lvS_cons (lvS_nil (show ([8, 7, 0, 1, 2, 3, 4, 5, 6] : List Nat).Nodup by decide)) rfl) rfl) rfl) rfl) rfl) rfl) rfl) rfl) rfl) ?_
        exact i1 x2 x3 x4 x5 x6 x3 0 h (by omega) (by omega) (by omega) K (by omega)
      · refine xi_iff (pc' := 16) kc_130_13 rfl (xc_lt_f (X := x7.toInt) (Y := 0) rfl (by decide) (by omega)) ?_
        refine xi_aload_n (pc' := 17) (x := 1) kc_130_16 rfl rfl ?_
        refine xp_1 K.1 (fun u2 u3 bu2 bu3 A4 => ?_)
        refine xi_getfield (pc' := 20) (v := .ref 3) kc_130_17 rfl rfl rfl A4 rfl ?_
        refine xi_iload (pc' := 22) (x := x7) kc_130_20 rfl rfl ?_
        have A5 := xk_ex K.1 xD_3
        obtain ⟨pt6, ept6, mpt6⟩ := xR_3 (i := x7) (by omega) (by omega)
        refine xj_aaload (pc' := 23) (b := pt6) kc_130_22 rfl A5 rfl (xi_in (n := 12) (by omega) (by omega)) ept6 ?_
        obtain ⟨u7, u8, u9, u10, pt11, bu7, bu8, bu9, bu10, mpt11, A12⟩ := xg_wall K.1 mpt6
        refine xi_getfield (pc' := 26) (v := .int u7) kc_130_23 rfl rfl rfl A12 rfl ?_
        refine xi_iload_n (pc' := 27) (x := x2) kc_130_26 rfl rfl ?_
        by_cases c13 : u7.toInt = x2.toInt
        · refine xi_cmf (pc' := 30) kc_130_27 rfl (xc_ne_f (X := u7.toInt) (Y := x2.toInt) rfl rfl (by omega)) ?_
          refine xi_iload (pc' := 32) (x := x7) kc_130_30 rfl rfl ?_
          refine xi_istore (pc' := 34) (lv' := [(5, .int x7), (0, .ref 1), (1, .ref 67), (2, .int x2), (3, .int x3), (4, .int x4), (6, .int x6), (7, .int x7)]) kc_130_32 rfl rfl (xm_lt ml_130 rfl) ?_
          refine xi_iload (pc' := 36) (x := x6) kc_130_34 rfl rfl ?_
          refine xi_aload_n (pc' := 37) (x := 1) kc_130_36 rfl rfl ?_
          refine xi_getfield (pc' := 40) (v := .ref 3) kc_130_37 rfl rfl rfl A4 rfl ?_
          refine xi_iload (pc' := 42) (x := x7) kc_130_40 rfl rfl ?_
          refine xj_aaload (pc' := 43) (b := pt6) kc_130_42 rfl A5 rfl (xi_in (n := 12) (by omega) (by omega)) ept6 ?_
          refine xi_iload (pc' := 45) (x := x4) kc_130_43 rfl rfl ?_
          refine xi_virtual (mj := 109) (as := [.int x4]) (st1 := [.int x6]) (lv0 := [(0, .ref pt6), (1, .int x4)]) kc_130_45 rfl rfl rfl rfl rfl A12 (Nat.le_of_ble_eq_true rfl) (hJ _ _ _ _ (by decide)) (xm_le ml_109 rfl) rfl ?_
          refine mt_109_0 hJ hov1 hov2 (d := d) (p0 := pt6) (x1 := x4) K.1 mpt6 (fun r14 hh15 br14 K16 => ?_)
          have K17 := xk_tr K K16 rfl
          show xw J ov (d + 2) 130 (48, [(5, .int x7), (0, .ref 1), (1, .ref 67), (2, .int x2), (3, .int x3), (4, .int x4), (6, .int x6), (7, .int x7)], [.int r14, .int x6], hh15) _
          refine xcps2 (α := Int32) ((x6 : Int32) + r14) (fun v18 ev18 => ?_)
          have rv18 := xc_rng v18
          refine xi_iadd (pc' := 49) (v := v18) kc_130_48 rfl ev18 ?_
          refine xi_istore (pc' := 51) (lv' := [(6, .int v18), (5, .int x7), (0, .ref 1), (1, .ref 67), (2, .int x2), (3, .int x3), (4, .int x4), (7, .int x7)]) kc_130_49 rfl rfl (xm_lt ml_130 rfl) ?_
          refine xcps2 (α := Int32) (x7 + (-1)) (fun v19 ev19 => ?_)
          have zv19 : v19.toInt = (x7.toInt + (-1)) := by rw [← ev19]; exact (xz_add (X := x7.toInt) (Y := (-1)) rfl (by decide) (by omega) (by omega)).trans (by omega)
          refine xi_iinc (pc' := 54) (x := x7) (v := v19) (lv' := [(7, .int v19), (6, .int v18), (5, .int x7), (0, .ref 1), (1, .ref 67), (2, .int x2), (3, .int x3), (4, .int x4)]) kc_130_51 rfl rfl ev19 rfl (xm_lt ml_130 rfl) ?_
          refine xi_goto (pc' := 11) kc_130_54 rfl ?_
          refine xw_lv (b := [(0, .ref 1), (1, .ref 67), (2, .int x2), (3, .int x3), (4, .int x4), (5, .int x7), (6, .int v18), (7, .int v19)]) (lvS_cons (lvS_cons (lvS_cons (lvS_cons (lvS_cons (lvS_cons (lvS_cons (lvS_cons (lvS_nil (show ([7, 6, 5, 0, 1, 2, 3, 4] : List Nat).Nodup by decide)) rfl) rfl) rfl) rfl) rfl) rfl) rfl) rfl) ?_
          exact i0 x2 x3 x4 x7 v18 v19 hh15 (by omega) (by omega) (by omega) K17 (by omega)
        · refine xi_cmt (pc' := 51) kc_130_27 rfl (xc_ne_t (X := u7.toInt) (Y := x2.toInt) rfl rfl (by omega)) ?_
          refine xcps2 (α := Int32) (x7 + (-1)) (fun v20 ev20 => ?_)
          have zv20 : v20.toInt = (x7.toInt + (-1)) := by rw [← ev20]; exact (xz_add (X := x7.toInt) (Y := (-1)) rfl (by decide) (by omega) (by omega)).trans (by omega)
          refine xi_iinc (pc' := 54) (x := x7) (v := v20) (lv' := [(7, .int v20), (0, .ref 1), (1, .ref 67), (2, .int x2), (3, .int x3), (4, .int x4), (5, .int x5), (6, .int x6)]) kc_130_51 rfl rfl ev20 rfl (xm_lt ml_130 rfl) ?_
          refine xi_goto (pc' := 11) kc_130_54 rfl ?_
          refine xw_lv (b := [(0, .ref 1), (1, .ref 67), (2, .int x2), (3, .int x3), (4, .int x4), (5, .int x5), (6, .int x6), (7, .int v20)]) (lvS_cons (lvS_cons (lvS_cons (lvS_cons (lvS_cons (lvS_cons (lvS_cons (lvS_cons (lvS_nil (show ([7, 0, 1, 2, 3, 4, 5, 6] : List Nat).Nodup by decide)) rfl) rfl) rfl) rfl) rfl) rfl) rfl) rfl) ?_
          exact i0 x2 x3 x4 x5 x6 v20 h (by omega) (by omega) (by omega) K (by omega)
    · intro x2 x3 x4 x5 x6 x7 x8 h b2 b5 b8 K hm
      have rx3 := xc_rng x3
      have rx4 := xc_rng x4
      have rx6 := xc_rng x6
      have rx7 := xc_rng x7
      refine xi_iload (pc' := 65) (x := x8) kc_130_63 rfl rfl ?_
      refine xi_bipush (pc' := 67) (v := 12) kc_130_65 rfl rfl ?_
      by_cases c1 : 12 ≤ x8.toInt
      · refine xi_cmt (pc' := 129) kc_130_67 rfl (xc_ge_t (X := x8.toInt) (Y := 12) rfl (by decide) (by omega)) ?_
        refine xi_iload (pc' := 131) (x := x5) kc_130_129 rfl rfl ?_
        refine xi_bipush (pc' := 133) (v := (-9)) kc_130_131 rfl rfl ?_
        by_cases c2 : x5.toInt = (-9)
        · refine xi_cmt (pc' := 144) kc_130_133 rfl (xc_eq_t (X := x5.toInt) (Y := (-9)) rfl (by decide) (by omega)) ?_
          refine xi_return kc_130_144 mr_130 ?_
          exact kk h K
        · refine xi_cmf (pc' := 136) kc_130_133 rfl (xc_eq_f (X := x5.toInt) (Y := (-9)) rfl (by decide) (by omega)) ?_
          refine xi_aload_n (pc' := 137) (x := 67) kc_130_136 rfl rfl ?_
          refine xi_iload (pc' := 139) (x := x5) kc_130_137 rfl rfl ?_
          refine xi_iload (pc' := 141) (x := x7) kc_130_139 rfl rfl ?_
          refine xp_67 K.1 (fun u3 u4 bu3 bu4 A5 => ?_)
          refine xi_virtual (mj := 131) (as := [.int x5, .int x7]) (st1 := []) (lv0 := [(0, .ref 67), (1, .int x5), (2, .int x7)]) kc_130_141 rfl rfl rfl rfl rfl A5 (Nat.le_of_ble_eq_true rfl) (hJ _ _ _ _ (by decide)) (xm_le ml_131 rfl) rfl ?_
          refine mt_131_1 hJ hov1 hov2 (d := d) (x1 := x5) (x2 := x7) K.1 (fun hh7 K8 => ?_)
          have K9 := xk_tr K K8 rfl
          show xw J ov (d + 2) 130 (144, [(0, .ref 1), (1, .ref 67), (2, .int x2), (3, .int x3), (4, .int x4), (5, .int x5), (6, .int x6), (7, .int x7), (8, .int x8)], [], hh7) _
          refine xi_return kc_130_144 mr_130 ?_
          exact kk hh7 K9
      · refine xi_cmf (pc' := 70) kc_130_67 rfl (xc_ge_f (X := x8.toInt) (Y := 12) rfl (by decide) (by omega)) ?_
        refine xi_iload (pc' := 72) (x := x6) kc_130_70 rfl rfl ?_
        by_cases c10 : x6.toInt ≤ 0
        · refine xi_ift (pc' := 129) kc_130_72 rfl (xc_le_t (X := x6.toInt) (Y := 0) rfl (by decide) (by omega)) ?_
          refine xi_iload (pc' := 131) (x := x5) kc_130_129 rfl rfl ?_
          refine xi_bipush (pc' := 133) (v := (-9)) kc_130_131 rfl rfl ?_
          by_cases c11 : x5.toInt = (-9)
          · refine xi_cmt (pc' := 144) kc_130_133 rfl (xc_eq_t (X := x5.toInt) (Y := (-9)) rfl (by decide) (by omega)) ?_
            refine xi_return kc_130_144 mr_130 ?_
            exact kk h K
          · refine xi_cmf (pc' := 136) kc_130_133 rfl (xc_eq_f (X := x5.toInt) (Y := (-9)) rfl (by decide) (by omega)) ?_
            refine xi_aload_n (pc' := 137) (x := 67) kc_130_136 rfl rfl ?_
            refine xi_iload (pc' := 139) (x := x5) kc_130_137 rfl rfl ?_
            refine xi_iload (pc' := 141) (x := x7) kc_130_139 rfl rfl ?_
            refine xp_67 K.1 (fun u12 u13 bu12 bu13 A14 => ?_)
            refine xi_virtual (mj := 131) (as := [.int x5, .int x7]) (st1 := []) (lv0 := [(0, .ref 67), (1, .int x5), (2, .int x7)]) kc_130_141 rfl rfl rfl rfl rfl A14 (Nat.le_of_ble_eq_true rfl) (hJ _ _ _ _ (by decide)) (xm_le ml_131 rfl) rfl ?_
            refine mt_131_1 hJ hov1 hov2 (d := d) (x1 := x5) (x2 := x7) K.1 (fun hh16 K17 => ?_)
            have K18 := xk_tr K K17 rfl
            show xw J ov (d + 2) 130 (144, [(0, .ref 1), (1, .ref 67), (2, .int x2), (3, .int x3), (4, .int x4), (5, .int x5), (6, .int x6), (7, .int x7), (8, .int x8)], [], hh16) _
            refine xi_return kc_130_144 mr_130 ?_
            exact kk hh16 K18
        · refine xi_iff (pc' := 75) kc_130_72 rfl (xc_le_f (X := x6.toInt) (Y := 0) rfl (by decide) (by omega)) ?_
          refine xi_aload_n (pc' := 76) (x := 1) kc_130_75 rfl rfl ?_
          refine xp_1 K.1 (fun u19 u20 bu19 bu20 A21 => ?_)
          refine xi_getfield (pc' := 79) (v := .ref 3) kc_130_76 rfl rfl rfl A21 rfl ?_
          refine xi_iload (pc' := 81) (x := x8) kc_130_79 rfl rfl ?_
          have A22 := xk_ex K.1 xD_3
          obtain ⟨pt23, ept23, mpt23⟩ := xR_3 (i := x8) (by omega) (by omega)
          refine xj_aaload (pc' := 82) (b := pt23) kc_130_81 rfl A22 rfl (xi_in (n := 12) (by omega) (by omega)) ept23 ?_
          obtain ⟨u24, u25, u26, u27, pt28, bu24, bu25, bu26, bu27, mpt28, A29⟩ := xg_wall K.1 mpt23
          refine xi_getfield (pc' := 85) (v := .int u24) kc_130_82 rfl rfl rfl A29 rfl ?_
          refine xi_iload_n (pc' := 86) (x := x2) kc_130_85 rfl rfl ?_
          by_cases c30 : u24.toInt = x2.toInt
          · refine xi_cmf (pc' := 89) kc_130_86 rfl (xc_ne_f (X := u24.toInt) (Y := x2.toInt) rfl rfl (by omega)) ?_
            refine xi_iload_n (pc' := 90) (x := x3) kc_130_89 rfl rfl ?_
            refine xi_aload_n (pc' := 91) (x := 1) kc_130_90 rfl rfl ?_
            refine xi_getfield (pc' := 94) (v := .ref 3) kc_130_91 rfl rfl rfl A21 rfl ?_
            refine xi_iload (pc' := 96) (x := x8) kc_130_94 rfl rfl ?_
            refine xj_aaload (pc' := 97) (b := pt23) kc_130_96 rfl A22 rfl (xi_in (n := 12) (by omega) (by omega)) ept23 ?_
            refine xi_iload (pc' := 99) (x := x4) kc_130_97 rfl rfl ?_
            refine xi_virtual (mj := 109) (as := [.int x4]) (st1 := [.int x3]) (lv0 := [(0, .ref pt23), (1, .int x4)]) kc_130_99 rfl rfl rfl rfl rfl A29 (Nat.le_of_ble_eq_true rfl) (hJ _ _ _ _ (by decide)) (xm_le ml_109 rfl) rfl ?_
            refine mt_109_0 hJ hov1 hov2 (d := d) (p0 := pt23) (x1 := x4) K.1 mpt23 (fun r31 hh32 br31 K33 => ?_)
            have K34 := xk_tr K K33 rfl
            show xw J ov (d + 2) 130 (102, [(0, .ref 1), (1, .ref 67), (2, .int x2), (3, .int x3), (4, .int x4), (5, .int x5), (6, .int x6), (7, .int x7), (8, .int x8)], [.int r31, .int x3], hh32) _
            refine xcps2 (α := Int32) ((x3 : Int32) * r31) (fun v35 ev35 => ?_)
            have rv35 := xc_rng v35
            refine xi_imul (pc' := 103) (v := v35) kc_130_102 rfl ev35 ?_
            refine xi_iload (pc' := 105) (x := x6) kc_130_103 rfl rfl ?_
            refine xcps2 (α := Int32) ((v35 : Int32) / x6) (fun v36 ev36 => ?_)
            have rv36 := xc_rng v36
            refine xi_idiv (pc' := 106) (v := v36) kc_130_105 rfl ev36 (xj_nz (by omega)) ?_
            refine xi_istore (pc' := 108) (lv' := [(9, .int v36), (0, .ref 1), (1, .ref 67), (2, .int x2), (3, .int x3), (4, .int x4), (5, .int x5), (6, .int x6), (7, .int x7), (8, .int x8)]) kc_130_106 rfl rfl (xm_lt ml_130 rfl) ?_
            refine xi_aload_n (pc' := 109) (x := 67) kc_130_108 rfl rfl ?_
            refine xi_iload (pc' := 111) (x := x8) kc_130_109 rfl rfl ?_
            refine xi_iload (pc' := 113) (x := v36) kc_130_111 rfl rfl ?_
            refine xp_67 K34.1 (fun u37 u38 bu37 bu38 A39 => ?_)
            refine xi_virtual (mj := 131) (as := [.int x8, .int v36]) (st1 := []) (lv0 := [(0, .ref 67), (1, .int x8), (2, .int v36)]) kc_130_113 rfl rfl rfl rfl rfl A39 (Nat.le_of_ble_eq_true rfl) (hJ _ _ _ _ (by decide)) (xm_le ml_131 rfl) rfl ?_
            refine mt_131_1 hJ hov1 hov2 (d := d) (x1 := x8) (x2 := v36) K34.1 (fun hh41 K42 => ?_)
            have K43 := xk_tr K34 K42 rfl
            show xw J ov (d + 2) 130 (116, [(9, .int v36), (0, .ref 1), (1, .ref 67), (2, .int x2), (3, .int x3), (4, .int x4), (5, .int x5), (6, .int x6), (7, .int x7), (8, .int x8)], [], hh41) _
            refine xi_iload (pc' := 118) (x := x7) kc_130_116 rfl rfl ?_
            refine xi_iload (pc' := 120) (x := v36) kc_130_118 rfl rfl ?_
            refine xcps2 (α := Int32) ((x7 : Int32) - v36) (fun v44 ev44 => ?_)
            have rv44 := xc_rng v44
            refine xi_isub (pc' := 121) (v := v44) kc_130_120 rfl ev44 ?_
            refine xi_istore (pc' := 123) (lv' := [(7, .int v44), (9, .int v36), (0, .ref 1), (1, .ref 67), (2, .int x2), (3, .int x3), (4, .int x4), (5, .int x5), (6, .int x6), (8, .int x8)]) kc_130_121 rfl rfl (xm_lt ml_130 rfl) ?_
            refine xcps2 (α := Int32) (x8 + 1) (fun v45 ev45 => ?_)
            have zv45 : v45.toInt = (x8.toInt + 1) := by rw [← ev45]; exact (xz_add (X := x8.toInt) (Y := 1) rfl (by decide) (by omega) (by omega)).trans (by omega)
            refine xi_iinc (pc' := 126) (x := x8) (v := v45) (lv' := [(8, .int v45), (7, .int v44), (9, .int v36), (0, .ref 1), (1, .ref 67), (2, .int x2), (3, .int x3), (4, .int x4), (5, .int x5), (6, .int x6)]) kc_130_123 rfl rfl ev45 rfl (xm_lt ml_130 rfl) ?_
            refine xi_goto (pc' := 63) kc_130_126 rfl ?_
            refine xw_lv (b := [(0, .ref 1), (1, .ref 67), (2, .int x2), (3, .int x3), (4, .int x4), (5, .int x5), (6, .int x6), (7, .int v44), (8, .int v45)]) (lvS_cons (lvS_cons (lvS_cons (lvS_cons (lvS_cons (lvS_cons (lvS_cons (lvS_cons (lvS_cons (lvS_nil (show ([8, 7, 9, 0, 1, 2, 3, 4, 5, 6] : List Nat).Nodup by decide)) rfl) rfl) rfl) rfl) rfl) rfl) rfl) rfl) rfl) ?_
            exact i1 x2 x3 x4 x5 x6 v44 v45 hh41 (by omega) (by omega) (by omega) K43 (by omega)
          · refine xi_cmt (pc' := 123) kc_130_86 rfl (xc_ne_t (X := u24.toInt) (Y := x2.toInt) rfl rfl (by omega)) ?_
            refine xcps2 (α := Int32) (x8 + 1) (fun v46 ev46 => ?_)
            have zv46 : v46.toInt = (x8.toInt + 1) := by rw [← ev46]; exact (xz_add (X := x8.toInt) (Y := 1) rfl (by decide) (by omega) (by omega)).trans (by omega)
            refine xi_iinc (pc' := 126) (x := x8) (v := v46) (lv' := [(8, .int v46), (0, .ref 1), (1, .ref 67), (2, .int x2), (3, .int x3), (4, .int x4), (5, .int x5), (6, .int x6), (7, .int x7)]) kc_130_123 rfl rfl ev46 rfl (xm_lt ml_130 rfl) ?_
            refine xi_goto (pc' := 63) kc_130_126 rfl ?_
            refine xw_lv (b := [(0, .ref 1), (1, .ref 67), (2, .int x2), (3, .int x3), (4, .int x4), (5, .int x5), (6, .int x6), (7, .int x7), (8, .int v46)]) (lvS_cons (lvS_cons (lvS_cons (lvS_cons (lvS_cons (lvS_cons (lvS_cons (lvS_cons (lvS_cons (lvS_nil (show ([8, 0, 1, 2, 3, 4, 5, 6, 7] : List Nat).Nodup by decide)) rfl) rfl) rfl) rfl) rfl) rfl) rfl) rfl) rfl) ?_
            exact i1 x2 x3 x4 x5 x6 x7 v46 h (by omega) (by omega) (by omega) K (by omega)
set_option maxHeartbeats 4000000 in
theorem mt_130_1 {J : xe_J} {ov : List (List Int32)} (hJ : ∀ d mj as h, mj ≠ xe_loff → J d mj as h = none) (hov1 : ov[1]? = some [10, 0, 0, 0, 0, 0]) (hov2 : ov[2]? = some [99, 30, 50, 50, 1, 99999]) {d : Nat} {Q : Option Value → xe_H → Prop} {h : xe_H} {x2 : Int32} {x3 : Int32} {x4 : Int32} (T : xt h) (b2 : (0 ≤ x2.toInt ∧ x2.toInt ≤ 5)) (kk : (∀ h' : xe_H, xk [(0, 9), (115, 1), (83, 0), (29, 0), (31, 0), (33, 0), (35, 0), (37, 0), (39, 0), (41, 0), (43, 0), (45, 0), (47, 0), (49, 0), (51, 0), (125, 0), (66, 8), (115, 18), (71, 0), (132, 0)] h h' → Q none h')) : xw J ov (d + 2) 130 (0, [(0, .ref 1), (1, .ref 67), (2, .int x2), (3, .int x3), (4, .int x4)], [], h) Q := by
  have K : xk [(0, 9), (115, 1), (83, 0), (29, 0), (31, 0), (33, 0), (35, 0), (37, 0), (39, 0), (41, 0), (43, 0), (45, 0), (47, 0), (49, 0), (51, 0), (125, 0), (66, 8), (115, 18), (71, 0), (132, 0)] h h := xk_re T
  have rx3 := xc_rng x3
  have rx4 := xc_rng x4
  refine xi_bipush (pc' := 2) (v := (-9)) kc_130_0 rfl rfl ?_
  refine xi_istore (pc' := 4) (lv' := [(5, .int (-9)), (0, .ref 1), (1, .ref 67), (2, .int x2), (3, .int x3), (4, .int x4)]) kc_130_2 rfl rfl (xm_lt ml_130 rfl) ?_
  refine xi_iconst (pc' := 5) (v := 0) kc_130_4 rfl rfl ?_
  refine xi_istore (pc' := 7) (lv' := [(6, .int 0), (5, .int (-9)), (0, .ref 1), (1, .ref 67), (2, .int x2), (3, .int x3), (4, .int x4)]) kc_130_5 rfl rfl (xm_lt ml_130 rfl) ?_
  refine xi_bipush (pc' := 9) (v := 11) kc_130_7 rfl rfl ?_
  refine xi_istore (pc' := 11) (lv' := [(7, .int 11), (6, .int 0), (5, .int (-9)), (0, .ref 1), (1, .ref 67), (2, .int x2), (3, .int x3), (4, .int x4)]) kc_130_9 rfl rfl (xm_lt ml_130 rfl) ?_
  have zcm9 : ((-9) : Int32).toInt = (-9) := by decide
  have zc0 : (0 : Int32).toInt = 0 := by decide
  have zc11 : (11 : Int32).toInt = 11 := by decide
  refine xw_lv (b := [(0, .ref 1), (1, .ref 67), (2, .int x2), (3, .int x3), (4, .int x4), (5, .int (-9)), (6, .int 0), (7, .int 11)]) (lvS_cons (lvS_cons (lvS_cons (lvS_cons (lvS_cons (lvS_cons (lvS_cons (lvS_cons (lvS_nil (show ([7, 6, 5, 0, 1, 2, 3, 4] : List Nat).Nodup by decide)) rfl) rfl) rfl) rfl) rfl) rfl) rfl) rfl) ?_
  exact (lp_130_1 hJ hov1 hov2 (d := d) (hb := h) (fun h9 K9 => kk h9 (xk_tr K K9 rfl)) 26).1 x2 x3 x4 (-9) 0 11 h (by omega) (by omega) (by omega) (xk_re K.1) (by omega)
