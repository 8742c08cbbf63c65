set_option maxHeartbeats 4000000 in
theorem mt_177_0 {J : xe_J} {ov : List (List Int32)} (hJ : ∀ d mj as h, mj ≠ xe_loff → J d mj as h = none) (hov1 : ov[1]? = some [10, 0, 0, 0, 0, 0]) (hov2 : ov[2]? = some [99, 30, 50, 50, 1, 99999]) {d : Nat} {Q : Option Value → xe_H → Prop} {h : xe_H} {x1 : Int32} {x2 : Int32} {x3 : Int32} {x4 : Int32} (T : xt h) (kk : (∀ (r : Int32) (h' : xe_H), ((-6) ≤ r.toInt ∧ r.toInt ≤ 11) → xk [(0, 9), (115, 1), (83, 0), (29, 0), (31, 0), (33, 0), (35, 0), (37, 0), (39, 0), (41, 0), (43, 0), (45, 0), (47, 0), (49, 0), (51, 0), (125, 0), (29, 2), (31, 2), (33, 2), (35, 2), (37, 2), (39, 2), (41, 2), (43, 2), (45, 2), (47, 2), (49, 2), (51, 2), (127, 0), (1, 5), (115, 23)] h h' → Q (some (.int r)) h')) : xw J ov (d + 1) 177 (0, [(0, .ref 0), (1, .int x1), (2, .int x2), (3, .int x3), (4, .int x4)], [], h) Q := by
  have K : xk [(0, 9), (115, 1), (83, 0), (29, 0), (31, 0), (33, 0), (35, 0), (37, 0), (39, 0), (41, 0), (43, 0), (45, 0), (47, 0), (49, 0), (51, 0), (125, 0), (29, 2), (31, 2), (33, 2), (35, 2), (37, 2), (39, 2), (41, 2), (43, 2), (45, 2), (47, 2), (49, 2), (51, 2), (127, 0), (1, 5), (115, 23)] h h := xk_re T
  have rx1 := xc_rng x1
  have rx2 := xc_rng x2
  have rx3 := xc_rng x3
  have rx4 := xc_rng x4
  refine xi_iload_n (pc' := 1) (x := x2) kc_177_0 rfl rfl ?_
  refine xi_static (mj := 117) (as := [.int x2]) (st1 := []) (lv0 := [(0, .int x2)]) kc_177_1 rfl rfl (Nat.le_of_ble_eq_true rfl) rfl rfl (Nat.le_of_ble_eq_true rfl) (hJ _ _ _ _ (by decide)) (xm_le ml_117 rfl) rfl ?_
  refine xi_iload_n (pc' := 1) (x := x2) kc_117_0 rfl rfl ?_
  by_cases c1 : x2.toInt < 0
  · refine xi_ift (pc' := 13) kc_117_1 rfl (xc_lt_t (X := x2.toInt) (Y := 0) rfl (by decide) (by omega)) ?_
    refine xi_iconst (pc' := 14) (v := 0) kc_117_13 rfl rfl ?_
    refine xi_ireturn kc_117_14 mr_117 rfl ?_
    show xw J ov (d + 1) 177 (4, [(0, .ref 0), (1, .int x1), (2, .int x2), (3, .int x3), (4, .int x4)], [.int 0], h) _
    refine xi_ift (pc' := 16) kc_177_4 rfl rfl ?_
    refine xi_aload_n (pc' := 17) (x := 0) kc_177_16 rfl rfl ?_
    refine xi_bipush (pc' := 19) (v := (-2)) kc_177_17 rfl rfl ?_
    refine xp_0 K.1 (fun u2 u3 bu2 bu3 A4 => ?_)
    refine xi_virtual (mj := 90) (as := [.int (-2)]) (st1 := []) (lv0 := [(0, .ref 0), (1, .int (-2))]) kc_177_19 rfl rfl rfl rfl rfl A4 (Nat.le_of_ble_eq_true rfl) (hJ _ _ _ _ (by decide)) (xm_le ml_90 rfl) rfl ?_
    refine xi_iload_n (pc' := 1) (x := (-2)) kc_90_0 rfl rfl ?_
    refine xi_ineg (pc' := 2) (v := 2) kc_90_1 rfl rfl ?_
    refine xi_istore_n (pc' := 3) (lv' := [(2, .int 2), (0, .ref 0), (1, .int (-2))]) kc_90_2 rfl rfl (xm_lt ml_90 rfl) ?_
    refine xi_iload_n (pc' := 4) (x := 2) kc_90_3 rfl rfl ?_
    refine xi_iff (pc' := 7) kc_90_4 rfl rfl ?_
    refine xi_iload_n (pc' := 8) (x := 2) kc_90_7 rfl rfl ?_
    refine xi_aload_n (pc' := 9) (x := 0) kc_90_8 rfl rfl ?_
    refine xi_getfield (pc' := 12) (v := .ref 94) kc_90_9 rfl rfl rfl A4 rfl ?_
    refine xcps4 (xk_arr K.1 xD_94) (fun y5 A5 hy5 ry5 => ?_)
    refine xi_arraylength (pc' := 13) (n := 7) (v := 7) kc_90_12 rfl (xl_lenI (by decide) (by decide) A5 hy5) rfl ?_
    refine xi_cmf (pc' := 16) kc_90_13 rfl rfl ?_
    refine xi_aload_n (pc' := 17) (x := 0) kc_90_16 rfl rfl ?_
    refine xi_getfield (pc' := 20) (v := .ref 94) kc_90_17 rfl rfl rfl A4 rfl ?_
    refine xi_iload_n (pc' := 21) (x := 2) kc_90_20 rfl rfl ?_
    refine xi_dup2 (pc' := 22) kc_90_21 rfl ⟨rfl, rfl⟩ ?_
    refine xcps4 (xj_get hy5 ry5 (i := 2) (by decide) (by decide)) (fun v6 ev6 bv6 dv6 => ?_)
    refine xi_iaload (pc' := 23) (v := v6) kc_90_22 rfl A5 (by decide) rfl (xi_in (by decide) (by rw [hy5]; decide)) ev6 ?_
    refine xi_iconst (pc' := 24) (v := 1) kc_90_23 rfl rfl ?_
    refine xcps2 (α := Int32) ((v6 : Int32) + 1) (fun v7 ev7 => ?_)
    have rv7 := xc_rng v7
    refine xi_iadd (pc' := 25) (v := v7) kc_90_24 rfl ev7 ?_
    refine xcps4 (xj_set (v := v7) hy5 ry5 2 (by first | omega | decide) (by first | omega | decide)) (fun y8 s8 hy8 ry8 => ?_)
    refine xi_iastore (pc' := 26) (x' := y8) kc_90_25 rfl A5 rfl (xi_in (by decide) (by rw [hy5]; decide)) s8 (fun hh8 eh8 => ?_)
    have K9 := xk_pa K (xk_wa rfl) xD_94 hy8 ry8 eh8
    refine xi_iload_n (pc' := 27) (x := (-2)) kc_90_26 rfl rfl ?_
    refine xi_ireturn kc_90_27 mr_90 rfl ?_
    show xw J ov (d + 1) 177 (22, [(0, .ref 0), (1, .int x1), (2, .int x2), (3, .int x3), (4, .int x4)], [.int (-2)], hh8) _
    refine xi_ireturn kc_177_22 mr_177 rfl ?_
    have zcm2 : ((-2) : Int32).toInt = (-2) := by decide
    exact kk (-2) hh8 (by omega) K9
  · refine xi_iff (pc' := 4) kc_117_1 rfl (xc_lt_f (X := x2.toInt) (Y := 0) rfl (by decide) (by omega)) ?_
    refine xi_iload_n (pc' := 5) (x := x2) kc_117_4 rfl rfl ?_
    refine xi_iconst (pc' := 6) (v := 4) kc_117_5 rfl rfl ?_
    by_cases c10 : 4 ≤ x2.toInt
    · refine xi_cmt (pc' := 13) kc_117_6 rfl (xc_ge_t (X := x2.toInt) (Y := 4) rfl (by decide) (by omega)) ?_
      refine xi_iconst (pc' := 14) (v := 0) kc_117_13 rfl rfl ?_
      refine xi_ireturn kc_117_14 mr_117 rfl ?_
      show xw J ov (d + 1) 177 (4, [(0, .ref 0), (1, .int x1), (2, .int x2), (3, .int x3), (4, .int x4)], [.int 0], h) _
      refine xi_ift (pc' := 16) kc_177_4 rfl rfl ?_
      refine xi_aload_n (pc' := 17) (x := 0) kc_177_16 rfl rfl ?_
      refine xi_bipush (pc' := 19) (v := (-2)) kc_177_17 rfl rfl ?_
      refine xp_0 K.1 (fun u11 u12 bu11 bu12 A13 => ?_)
      refine xi_virtual (mj := 90) (as := [.int (-2)]) (st1 := []) (lv0 := [(0, .ref 0), (1, .int (-2))]) kc_177_19 rfl rfl rfl rfl rfl A13 (Nat.le_of_ble_eq_true rfl) (hJ _ _ _ _ (by decide)) (xm_le ml_90 rfl) rfl ?_
      refine xi_iload_n (pc' := 1) (x := (-2)) kc_90_0 rfl rfl ?_
      refine xi_ineg (pc' := 2) (v := 2) kc_90_1 rfl rfl ?_
      refine xi_istore_n (pc' := 3) (lv' := [(2, .int 2), (0, .ref 0), (1, .int (-2))]) kc_90_2 rfl rfl (xm_lt ml_90 rfl) ?_
      refine xi_iload_n (pc' := 4) (x := 2) kc_90_3 rfl rfl ?_
      refine xi_iff (pc' := 7) kc_90_4 rfl rfl ?_
      refine xi_iload_n (pc' := 8) (x := 2) kc_90_7 rfl rfl ?_
      refine xi_aload_n (pc' := 9) (x := 0) kc_90_8 rfl rfl ?_
      refine xi_getfield (pc' := 12) (v := .ref 94) kc_90_9 rfl rfl rfl A13 rfl ?_
      refine xcps4 (xk_arr K.1 xD_94) (fun y14 A14 hy14 ry14 => ?_)
      refine xi_arraylength (pc' := 13) (n := 7) (v := 7) kc_90_12 rfl (xl_lenI (by decide) (by decide) A14 hy14) rfl ?_
      refine xi_cmf (pc' := 16) kc_90_13 rfl rfl ?_
      refine xi_aload_n (pc' := 17) (x := 0) kc_90_16 rfl rfl ?_
      refine xi_getfield (pc' := 20) (v := .ref 94) kc_90_17 rfl rfl rfl A13 rfl ?_
      refine xi_iload_n (pc' := 21) (x := 2) kc_90_20 rfl rfl ?_
      refine xi_dup2 (pc' := 22) kc_90_21 rfl ⟨rfl, rfl⟩ ?_
      refine xcps4 (xj_get hy14 ry14 (i := 2) (by decide) (by decide)) (fun v15 ev15 bv15 dv15 => ?_)
      refine xi_iaload (pc' := 23) (v := v15) kc_90_22 rfl A14 (by decide) rfl (xi_in (by decide) (by rw [hy14]; decide)) ev15 ?_
      refine xi_iconst (pc' := 24) (v := 1) kc_90_23 rfl rfl ?_
      refine xcps2 (α := Int32) ((v15 : Int32) + 1) (fun v16 ev16 => ?_)
      have rv16 := xc_rng v16
      refine xi_iadd (pc' := 25) (v := v16) kc_90_24 rfl ev16 ?_
      refine xcps4 (xj_set (v := v16) hy14 ry14 2 (by first | omega | decide) (by first | omega | decide)) (fun y17 s17 hy17 ry17 => ?_)
      refine xi_iastore (pc' := 26) (x' := y17) kc_90_25 rfl A14 rfl (xi_in (by decide) (by rw [hy14]; decide)) s17 (fun hh17 eh17 => ?_)
      have K18 := xk_pa K (xk_wa rfl) xD_94 hy17 ry17 eh17
      refine xi_iload_n (pc' := 27) (x := (-2)) kc_90_26 rfl rfl ?_
      refine xi_ireturn kc_90_27 mr_90 rfl ?_
      show xw J ov (d + 1) 177 (22, [(0, .ref 0), (1, .int x1), (2, .int x2), (3, .int x3), (4, .int x4)], [.int (-2)], hh17) _
      refine xi_ireturn kc_177_22 mr_177 rfl ?_
      have zcm2 : ((-2) : Int32).toInt = (-2) := by decide
      exact kk (-2) hh17 (by omega) K18
    · refine xi_cmf (pc' := 9) kc_117_6 rfl (xc_ge_f (X := x2.toInt) (Y := 4) rfl (by decide) (by omega)) ?_
      refine xi_iconst (pc' := 10) (v := 1) kc_117_9 rfl rfl ?_
      refine xi_goto (pc' := 14) kc_117_10 rfl ?_
      refine xi_ireturn kc_117_14 mr_117 rfl ?_
      show xw J ov (d + 1) 177 (4, [(0, .ref 0), (1, .int x1), (2, .int x2), (3, .int x3), (4, .int x4)], [.int 1], h) _
      refine xi_iff (pc' := 7) kc_177_4 rfl rfl ?_
      refine xi_iload_n (pc' := 8) (x := x3) kc_177_7 rfl rfl ?_
      by_cases c19 : x3.toInt < 0
      · refine xi_ift (pc' := 16) kc_177_8 rfl (xc_lt_t (X := x3.toInt) (Y := 0) rfl (by decide) (by omega)) ?_
        refine xi_aload_n (pc' := 17) (x := 0) kc_177_16 rfl rfl ?_
        refine xi_bipush (pc' := 19) (v := (-2)) kc_177_17 rfl rfl ?_
        refine xp_0 K.1 (fun u20 u21 bu20 bu21 A22 => ?_)
        refine xi_virtual (mj := 90) (as := [.int (-2)]) (st1 := []) (lv0 := [(0, .ref 0), (1, .int (-2))]) kc_177_19 rfl rfl rfl rfl rfl A22 (Nat.le_of_ble_eq_true rfl) (hJ _ _ _ _ (by decide)) (xm_le ml_90 rfl) rfl ?_
        refine xi_iload_n (pc' := 1) (x := (-2)) kc_90_0 rfl rfl ?_
        refine xi_ineg (pc' := 2) (v := 2) kc_90_1 rfl rfl ?_
        refine xi_istore_n (pc' := 3) (lv' := [(2, .int 2), (0, .ref 0), (1, .int (-2))]) kc_90_2 rfl rfl (xm_lt ml_90 rfl) ?_
        refine xi_iload_n (pc' := 4) (x := 2) kc_90_3 rfl rfl ?_
        refine xi_iff (pc' := 7) kc_90_4 rfl rfl ?_
        refine xi_iload_n (pc' := 8) (x := 2) kc_90_7 rfl rfl ?_
        refine xi_aload_n (pc' := 9) (x := 0) kc_90_8 rfl rfl ?_
        refine xi_getfield (pc' := 12) (v := .ref 94) kc_90_9 rfl rfl rfl A22 rfl ?_
        refine xcps4 (xk_arr K.1 xD_94) (fun y23 A23 hy23 ry23 => ?_)
        refine xi_arraylength (pc' := 13) (n := 7) (v := 7) kc_90_12 rfl (xl_lenI (by decide) (by decide) A23 hy23) rfl ?_
        refine xi_cmf (pc' := 16) kc_90_13 rfl rfl ?_
        refine xi_aload_n (pc' := 17) (x := 0) kc_90_16 rfl rfl ?_
        refine xi_getfield (pc' := 20) (v := .ref 94) kc_90_17 rfl rfl rfl A22 rfl ?_
        refine xi_iload_n (pc' := 21) (x := 2) kc_90_20 rfl rfl ?_
        refine xi_dup2 (pc' := 22) kc_90_21 rfl ⟨rfl, rfl⟩ ?_
        refine xcps4 (xj_get hy23 ry23 (i := 2) (by decide) (by decide)) (fun v24 ev24 bv24 dv24 => ?_)
        refine xi_iaload (pc' := 23) (v := v24) kc_90_22 rfl A23 (by decide) rfl (xi_in (by decide) (by rw [hy23]; decide)) ev24 ?_
        refine xi_iconst (pc' := 24) (v := 1) kc_90_23 rfl rfl ?_
        refine xcps2 (α := Int32) ((v24 : Int32) + 1) (fun v25 ev25 => ?_)
        have rv25 := xc_rng v25
        refine xi_iadd (pc' := 25) (v := v25) kc_90_24 rfl ev25 ?_
        refine xcps4 (xj_set (v := v25) hy23 ry23 2 (by first | omega | decide) (by first | omega | decide)) (fun y26 s26 hy26 ry26 => ?_)
        refine xi_iastore (pc' := 26) (x' := y26) kc_90_25 rfl A23 rfl (xi_in (by decide) (by rw [hy23]; decide)) s26 (fun hh26 eh26 => ?_)
        have K27 := xk_pa K (xk_wa rfl) xD_94 hy26 ry26 eh26
        refine xi_iload_n (pc' := 27) (x := (-2)) kc_90_26 rfl rfl ?_
        refine xi_ireturn kc_90_27 mr_90 rfl ?_
        show xw J ov (d + 1) 177 (22, [(0, .ref 0), (1, .int x1), (2, .int x2), (3, .int x3), (4, .int x4)], [.int (-2)], hh26) _
        refine xi_ireturn kc_177_22 mr_177 rfl ?_
        have zcm2 : ((-2) : Int32).toInt = (-2) := by decide
        exact kk (-2) hh26 (by omega) K27
      · refine xi_iff (pc' := 11) kc_177_8 rfl (xc_lt_f (X := x3.toInt) (Y := 0) rfl (by decide) (by omega)) ?_
        refine xi_iload_n (pc' := 12) (x := x3) kc_177_11 rfl rfl ?_
        refine xi_iconst (pc' := 13) (v := 1) kc_177_12 rfl rfl ?_
        by_cases c28 : x3.toInt ≤ 1
        · refine xi_cmt (pc' := 23) kc_177_13 rfl (xc_le_t (X := x3.toInt) (Y := 1) rfl (by decide) (by omega)) ?_
          refine xi_iload_n (pc' := 24) (x := x1) kc_177_23 rfl rfl ?_
          refine xi_aload_n (pc' := 25) (x := 0) kc_177_24 rfl rfl ?_
          refine xp_0 K.1 (fun u29 u30 bu29 bu30 A31 => ?_)
          refine xi_getfield (pc' := 28) (v := .int u30) kc_177_25 rfl rfl rfl A31 rfl ?_
          refine xi_bipush (pc' := 30) (v := 24) kc_177_28 rfl rfl ?_
          refine xcps2 (α := Int32) (u30 / 24) (fun v32 ev32 => ?_)
          have dv32 : v32.toInt = u30.toInt / 24 := by rw [← ev32]; exact xz_dive (X := u30.toInt) (Y := 24) rfl (by decide) (by omega) (by decide)
          have bv32 : 0 ≤ v32.toInt ∧ v32.toInt ≤ 25 := by omega
          refine xi_idiv (pc' := 31) (v := v32) kc_177_30 rfl ev32 (by decide) ?_
          by_cases c33 : x1.toInt < v32.toInt
          · refine xi_cmt (pc' := 39) kc_177_31 rfl (xc_lt_t (X := x1.toInt) (Y := v32.toInt) rfl rfl (by omega)) ?_
            refine xi_aload_n (pc' := 40) (x := 0) kc_177_39 rfl rfl ?_
            refine xi_bipush (pc' := 42) (v := (-4)) kc_177_40 rfl rfl ?_
            refine xi_virtual (mj := 90) (as := [.int (-4)]) (st1 := []) (lv0 := [(0, .ref 0), (1, .int (-4))]) kc_177_42 rfl rfl rfl rfl rfl A31 (Nat.le_of_ble_eq_true rfl) (hJ _ _ _ _ (by decide)) (xm_le ml_90 rfl) rfl ?_
            refine xi_iload_n (pc' := 1) (x := (-4)) kc_90_0 rfl rfl ?_
            refine xi_ineg (pc' := 2) (v := 4) kc_90_1 rfl rfl ?_
            refine xi_istore_n (pc' := 3) (lv' := [(2, .int 4), (0, .ref 0), (1, .int (-4))]) kc_90_2 rfl rfl (xm_lt ml_90 rfl) ?_
            refine xi_iload_n (pc' := 4) (x := 4) kc_90_3 rfl rfl ?_
            refine xi_iff (pc' := 7) kc_90_4 rfl rfl ?_
            refine xi_iload_n (pc' := 8) (x := 4) kc_90_7 rfl rfl ?_
            refine xi_aload_n (pc' := 9) (x := 0) kc_90_8 rfl rfl ?_
            refine xi_getfield (pc' := 12) (v := .ref 94) kc_90_9 rfl rfl rfl A31 rfl ?_
            refine xcps4 (xk_arr K.1 xD_94) (fun y34 A34 hy34 ry34 => ?_)
            refine xi_arraylength (pc' := 13) (n := 7) (v := 7) kc_90_12 rfl (xl_lenI (by decide) (by decide) A34 hy34) rfl ?_
            refine xi_cmf (pc' := 16) kc_90_13 rfl rfl ?_
            refine xi_aload_n (pc' := 17) (x := 0) kc_90_16 rfl rfl ?_
            refine xi_getfield (pc' := 20) (v := .ref 94) kc_90_17 rfl rfl rfl A31 rfl ?_
            refine xi_iload_n (pc' := 21) (x := 4) kc_90_20 rfl rfl ?_
            refine xi_dup2 (pc' := 22) kc_90_21 rfl ⟨rfl, rfl⟩ ?_
            refine xcps4 (xj_get hy34 ry34 (i := 4) (by decide) (by decide)) (fun v35 ev35 bv35 dv35 => ?_)
            refine xi_iaload (pc' := 23) (v := v35) kc_90_22 rfl A34 (by decide) rfl (xi_in (by decide) (by rw [hy34]; decide)) ev35 ?_
            refine xi_iconst (pc' := 24) (v := 1) kc_90_23 rfl rfl ?_
            refine xcps2 (α := Int32) ((v35 : Int32) + 1) (fun v36 ev36 => ?_)
            have rv36 := xc_rng v36
            refine xi_iadd (pc' := 25) (v := v36) kc_90_24 rfl ev36 ?_
            refine xcps4 (xj_set (v := v36) hy34 ry34 4 (by first | omega | decide) (by first | omega | decide)) (fun y37 s37 hy37 ry37 => ?_)
            refine xi_iastore (pc' := 26) (x' := y37) kc_90_25 rfl A34 rfl (xi_in (by decide) (by rw [hy34]; decide)) s37 (fun hh37 eh37 => ?_)
            have K38 := xk_pa K (xk_wa rfl) xD_94 hy37 ry37 eh37
            refine xi_iload_n (pc' := 27) (x := (-4)) kc_90_26 rfl rfl ?_
            refine xi_ireturn kc_90_27 mr_90 rfl ?_
            show xw J ov (d + 1) 177 (45, [(0, .ref 0), (1, .int x1), (2, .int x2), (3, .int x3), (4, .int x4)], [.int (-4)], hh37) _
            refine xi_ireturn kc_177_45 mr_177 rfl ?_
            have zcm4 : ((-4) : Int32).toInt = (-4) := by decide
            exact kk (-4) hh37 (by omega) K38
          · refine xi_cmf (pc' := 34) kc_177_31 rfl (xc_lt_f (X := x1.toInt) (Y := v32.toInt) rfl rfl (by omega)) ?_
            refine xi_iload (pc' := 36) (x := x4) kc_177_34 rfl rfl ?_
            by_cases c39 : 0 ≤ x4.toInt
            · refine xi_ift (pc' := 46) kc_177_36 rfl (xc_ge_t (X := x4.toInt) (Y := 0) rfl (by decide) (by omega)) ?_
              refine xi_iload_n (pc' := 47) (x := x1) kc_177_46 rfl rfl ?_
              refine xi_bipush (pc' := 49) (v := 25) kc_177_47 rfl rfl ?_
              by_cases c40 : 25 < x1.toInt
              · refine xi_cmt (pc' := 71) kc_177_49 rfl (xc_gt_t (X := x1.toInt) (Y := 25) rfl (by decide) (by omega)) ?_
                refine xi_aload_n (pc' := 72) (x := 0) kc_177_71 rfl rfl ?_
                refine xi_bipush (pc' := 74) (v := (-6)) kc_177_72 rfl rfl ?_
                refine xi_virtual (mj := 90) (as := [.int (-6)]) (st1 := []) (lv0 := [(0, .ref 0), (1, .int (-6))]) kc_177_74 rfl rfl rfl rfl rfl A31 (Nat.le_of_ble_eq_true rfl) (hJ _ _ _ _ (by decide)) (xm_le ml_90 rfl) rfl ?_
                refine xi_iload_n (pc' := 1) (x := (-6)) kc_90_0 rfl rfl ?_
                refine xi_ineg (pc' := 2) (v := 6) kc_90_1 rfl rfl ?_
                refine xi_istore_n (pc' := 3) (lv' := [(2, .int 6), (0, .ref 0), (1, .int (-6))]) kc_90_2 rfl rfl (xm_lt ml_90 rfl) ?_
                refine xi_iload_n (pc' := 4) (x := 6) kc_90_3 rfl rfl ?_
                refine xi_iff (pc' := 7) kc_90_4 rfl rfl ?_
                refine xi_iload_n (pc' := 8) (x := 6) kc_90_7 rfl rfl ?_
                refine xi_aload_n (pc' := 9) (x := 0) kc_90_8 rfl rfl ?_
                refine xi_getfield (pc' := 12) (v := .ref 94) kc_90_9 rfl rfl rfl A31 rfl ?_
                refine xcps4 (xk_arr K.1 xD_94) (fun y41 A41 hy41 ry41 => ?_)
                refine xi_arraylength (pc' := 13) (n := 7) (v := 7) kc_90_12 rfl (xl_lenI (by decide) (by decide) A41 hy41) rfl ?_
                refine xi_cmf (pc' := 16) kc_90_13 rfl rfl ?_
                refine xi_aload_n (pc' := 17) (x := 0) kc_90_16 rfl rfl ?_
                refine xi_getfield (pc' := 20) (v := .ref 94) kc_90_17 rfl rfl rfl A31 rfl ?_
                refine xi_iload_n (pc' := 21) (x := 6) kc_90_20 rfl rfl ?_
                refine xi_dup2 (pc' := 22) kc_90_21 rfl ⟨rfl, rfl⟩ ?_
                refine xcps4 (xj_get hy41 ry41 (i := 6) (by decide) (by decide)) (fun v42 ev42 bv42 dv42 => ?_)
                refine xi_iaload (pc' := 23) (v := v42) kc_90_22 rfl A41 (by decide) rfl (xi_in (by decide) (by rw [hy41]; decide)) ev42 ?_
                refine xi_iconst (pc' := 24) (v := 1) kc_90_23 rfl rfl ?_
                refine xcps2 (α := Int32) ((v42 : Int32) + 1) (fun v43 ev43 => ?_)
                have rv43 := xc_rng v43
                refine xi_iadd (pc' := 25) (v := v43) kc_90_24 rfl ev43 ?_
                refine xcps4 (xj_set (v := v43) hy41 ry41 6 (by first | omega | decide) (by first | omega | decide)) (fun y44 s44 hy44 ry44 => ?_)
                refine xi_iastore (pc' := 26) (x' := y44) kc_90_25 rfl A41 rfl (xi_in (by decide) (by rw [hy41]; decide)) s44 (fun hh44 eh44 => ?_)
                have K45 := xk_pa K (xk_wa rfl) xD_94 hy44 ry44 eh44
                refine xi_iload_n (pc' := 27) (x := (-6)) kc_90_26 rfl rfl ?_
                refine xi_ireturn kc_90_27 mr_90 rfl ?_
                show xw J ov (d + 1) 177 (77, [(0, .ref 0), (1, .int x1), (2, .int x2), (3, .int x3), (4, .int x4)], [.int (-6)], hh44) _
                refine xi_ireturn kc_177_77 mr_177 rfl ?_
                have zcm6 : ((-6) : Int32).toInt = (-6) := by decide
                exact kk (-6) hh44 (by omega) K45
              · refine xi_cmf (pc' := 52) kc_177_49 rfl (xc_gt_f (X := x1.toInt) (Y := 25) rfl (by decide) (by omega)) ?_
                refine xi_iload (pc' := 54) (x := x4) kc_177_52 rfl rfl ?_
                refine xi_bipush (pc' := 56) (v := 99) kc_177_54 rfl rfl ?_
                by_cases c46 : 99 < x4.toInt
                · refine xi_cmt (pc' := 71) kc_177_56 rfl (xc_gt_t (X := x4.toInt) (Y := 99) rfl (by decide) (by omega)) ?_
                  refine xi_aload_n (pc' := 72) (x := 0) kc_177_71 rfl rfl ?_
                  refine xi_bipush (pc' := 74) (v := (-6)) kc_177_72 rfl rfl ?_
                  refine xi_virtual (mj := 90) (as := [.int (-6)]) (st1 := []) (lv0 := [(0, .ref 0), (1, .int (-6))]) kc_177_74 rfl rfl rfl rfl rfl A31 (Nat.le_of_ble_eq_true rfl) (hJ _ _ _ _ (by decide)) (xm_le ml_90 rfl) rfl ?_
                  refine xi_iload_n (pc' := 1) (x := (-6)) kc_90_0 rfl rfl ?_
                  refine xi_ineg (pc' := 2) (v := 6) kc_90_1 rfl rfl ?_
                  refine xi_istore_n (pc' := 3) (lv' := [(2, .int 6), (0, .ref 0), (1, .int (-6))]) kc_90_2 rfl rfl (xm_lt ml_90 rfl) ?_
                  refine xi_iload_n (pc' := 4) (x := 6) kc_90_3 rfl rfl ?_
                  refine xi_iff (pc' := 7) kc_90_4 rfl rfl ?_
                  refine xi_iload_n (pc' := 8) (x := 6) kc_90_7 rfl rfl ?_
                  refine xi_aload_n (pc' := 9) (x := 0) kc_90_8 rfl rfl ?_
                  refine xi_getfield (pc' := 12) (v := .ref 94) kc_90_9 rfl rfl rfl A31 rfl ?_
                  refine xcps4 (xk_arr K.1 xD_94) (fun y47 A47 hy47 ry47 => ?_)
                  refine xi_arraylength (pc' := 13) (n := 7) (v := 7) kc_90_12 rfl (xl_lenI (by decide) (by decide) A47 hy47) rfl ?_
                  refine xi_cmf (pc' := 16) kc_90_13 rfl rfl ?_
                  refine xi_aload_n (pc' := 17) (x := 0) kc_90_16 rfl rfl ?_
                  refine xi_getfield (pc' := 20) (v := .ref 94) kc_90_17 rfl rfl rfl A31 rfl ?_
                  refine xi_iload_n (pc' := 21) (x := 6) kc_90_20 rfl rfl ?_
                  refine xi_dup2 (pc' := 22) kc_90_21 rfl ⟨rfl, rfl⟩ ?_
                  refine xcps4 (xj_get hy47 ry47 (i := 6) (by decide) (by decide)) (fun v48 ev48 bv48 dv48 => ?_)
                  refine xi_iaload (pc' := 23) (v := v48) kc_90_22 rfl A47 (by decide) rfl (xi_in (by decide) (by rw [hy47]; decide)) ev48 ?_
                  refine xi_iconst (pc' := 24) (v := 1) kc_90_23 rfl rfl ?_
                  refine xcps2 (α := Int32) ((v48 : Int32) + 1) (fun v49 ev49 => ?_)
                  have rv49 := xc_rng v49
                  refine xi_iadd (pc' := 25) (v := v49) kc_90_24 rfl ev49 ?_
                  refine xcps4 (xj_set (v := v49) hy47 ry47 6 (by first | omega | decide) (by first | omega | decide)) (fun y50 s50 hy50 ry50 => ?_)
                  refine xi_iastore (pc' := 26) (x' := y50) kc_90_25 rfl A47 rfl (xi_in (by decide) (by rw [hy47]; decide)) s50 (fun hh50 eh50 => ?_)
                  have K51 := xk_pa K (xk_wa rfl) xD_94 hy50 ry50 eh50
                  refine xi_iload_n (pc' := 27) (x := (-6)) kc_90_26 rfl rfl ?_
                  refine xi_ireturn kc_90_27 mr_90 rfl ?_
                  show xw J ov (d + 1) 177 (77, [(0, .ref 0), (1, .int x1), (2, .int x2), (3, .int x3), (4, .int x4)], [.int (-6)], hh50) _
                  refine xi_ireturn kc_177_77 mr_177 rfl ?_
                  have zcm6 : ((-6) : Int32).toInt = (-6) := by decide
                  exact kk (-6) hh50 (by omega) K51
                · refine xi_cmf (pc' := 59) kc_177_56 rfl (xc_gt_f (X := x4.toInt) (Y := 99) rfl (by decide) (by omega)) ?_
                  refine xi_aload_n (pc' := 60) (x := 0) kc_177_59 rfl rfl ?_
                  refine xi_getfield (pc' := 63) (v := .ref 85) kc_177_60 rfl rfl rfl A31 rfl ?_
                  refine xp_85 K.1 (fun u52 u53 bu52 bu53 A54 => ?_)
                  refine xi_getfield (pc' := 66) (v := .int u53) kc_177_63 rfl rfl rfl A54 rfl ?_
                  refine xi_bipush (pc' := 68) (v := 12) kc_177_66 rfl rfl ?_
                  by_cases c55 : u53.toInt < 12
                  · refine xi_cmt (pc' := 78) kc_177_68 rfl (xc_lt_t (X := u53.toInt) (Y := 12) rfl (by decide) (by omega)) ?_
                    refine xi_aload_n (pc' := 79) (x := 0) kc_177_78 rfl rfl ?_
                    refine xi_getfield (pc' := 82) (v := .ref 85) kc_177_79 rfl rfl rfl A31 rfl ?_
                    refine xi_iload_n (pc' := 83) (x := x1) kc_177_82 rfl rfl ?_
                    refine xi_iload_n (pc' := 84) (x := x2) kc_177_83 rfl rfl ?_
                    refine xi_iload_n (pc' := 85) (x := x3) kc_177_84 rfl rfl ?_
                    refine xi_iload (pc' := 87) (x := x4) kc_177_85 rfl rfl ?_
                    refine xi_virtual (mj := 178) (as := [.int x1, .int x2, .int x3, .int x4]) (st1 := []) (lv0 := [(0, .ref 85), (1, .int x1), (2, .int x2), (3, .int x3), (4, .int x4)]) kc_177_87 rfl rfl rfl rfl rfl A54 (Nat.le_of_ble_eq_true rfl) (hJ _ _ _ _ (by decide)) (xm_le ml_178 rfl) rfl ?_
                    refine xi_aload_n (pc' := 1) (x := 85) kc_178_0 rfl rfl ?_
                    refine xi_getfield (pc' := 4) (v := .int u53) kc_178_1 rfl rfl rfl A54 rfl ?_
                    refine xi_bipush (pc' := 6) (v := 12) kc_178_4 rfl rfl ?_
                    refine xi_cmt (pc' := 12) kc_178_6 rfl (xc_lt_t (X := u53.toInt) (Y := 12) rfl (by decide) (by omega)) ?_
                    refine xi_aload_n (pc' := 13) (x := 85) kc_178_12 rfl rfl ?_
                    refine xi_getfield (pc' := 16) (v := .ref 86) kc_178_13 rfl rfl rfl A54 rfl ?_
                    refine xi_aload_n (pc' := 17) (x := 85) kc_178_16 rfl rfl ?_
                    refine xi_getfield (pc' := 20) (v := .int u53) kc_178_17 rfl rfl rfl A54 rfl ?_
                    refine xi_iload_n (pc' := 21) (x := x1) kc_178_20 rfl rfl ?_
                    refine xcps4 (xk_arr K.1 xD_86) (fun y56 A56 hy56 ry56 => ?_)
                    refine xcps4 (xj_set (v := x1) hy56 ry56 u53 (by first | omega | decide) (by first | omega | decide)) (fun y57 s57 hy57 ry57 => ?_)
                    refine xi_iastore (pc' := 22) (x' := y57) kc_178_21 rfl A56 rfl (xi_in (by omega) (by rw [hy56]; omega)) s57 (fun hh57 eh57 => ?_)
                    have K58 := xk_pa K (xk_wa rfl) xD_86 hy57 ry57 eh57
                    refine xi_aload_n (pc' := 23) (x := 85) kc_178_22 rfl rfl ?_
                    have A59 := ((eh57.2.1 85 (by decide)).trans A54)
                    refine xi_getfield (pc' := 26) (v := .ref 87) kc_178_23 rfl rfl rfl A59 rfl ?_
                    refine xi_aload_n (pc' := 27) (x := 85) kc_178_26 rfl rfl ?_
                    refine xi_getfield (pc' := 30) (v := .int u53) kc_178_27 rfl rfl rfl A59 rfl ?_
                    refine xi_iload_n (pc' := 31) (x := x2) kc_178_30 rfl rfl ?_
                    refine xcps4 (xk_arr K58.1 xD_87) (fun y60 A60 hy60 ry60 => ?_)
                    refine xcps4 (xj_set (v := x2) hy60 ry60 u53 (by first | omega | decide) (by first | omega | decide)) (fun y61 s61 hy61 ry61 => ?_)
                    refine xi_iastore (pc' := 32) (x' := y61) kc_178_31 rfl A60 rfl (xi_in (by omega) (by rw [hy60]; omega)) s61 (fun hh61 eh61 => ?_)
                    have K62 := xk_pa K58 (xk_wa rfl) xD_87 hy61 ry61 eh61
                    refine xi_aload_n (pc' := 33) (x := 85) kc_178_32 rfl rfl ?_
                    have A63 := ((eh61.2.1 85 (by decide)).trans A59)
                    refine xi_getfield (pc' := 36) (v := .ref 88) kc_178_33 rfl rfl rfl A63 rfl ?_
                    refine xi_aload_n (pc' := 37) (x := 85) kc_178_36 rfl rfl ?_
                    refine xi_getfield (pc' := 40) (v := .int u53) kc_178_37 rfl rfl rfl A63 rfl ?_
                    refine xi_iload_n (pc' := 41) (x := x3) kc_178_40 rfl rfl ?_
                    refine xcps4 (xk_arr K62.1 xD_88) (fun y64 A64 hy64 ry64 => ?_)
                    refine xcps4 (xj_set (v := x3) hy64 ry64 u53 (by first | omega | decide) (by first | omega | decide)) (fun y65 s65 hy65 ry65 => ?_)
                    refine xi_iastore (pc' := 42) (x' := y65) kc_178_41 rfl A64 rfl (xi_in (by omega) (by rw [hy64]; omega)) s65 (fun hh65 eh65 => ?_)
                    have K66 := xk_pa K62 (xk_wa rfl) xD_88 hy65 ry65 eh65
                    refine xi_aload_n (pc' := 43) (x := 85) kc_178_42 rfl rfl ?_
                    have A67 := ((eh65.2.1 85 (by decide)).trans A63)
                    refine xi_getfield (pc' := 46) (v := .ref 89) kc_178_43 rfl rfl rfl A67 rfl ?_
                    refine xi_aload_n (pc' := 47) (x := 85) kc_178_46 rfl rfl ?_
                    refine xi_getfield (pc' := 50) (v := .int u53) kc_178_47 rfl rfl rfl A67 rfl ?_
                    refine xi_iload (pc' := 52) (x := x4) kc_178_50 rfl rfl ?_
                    refine xcps4 (xk_arr K66.1 xD_89) (fun y68 A68 hy68 ry68 => ?_)
                    refine xcps4 (xj_set (v := x4) hy68 ry68 u53 (by first | omega | decide) (by first | omega | decide)) (fun y69 s69 hy69 ry69 => ?_)
                    refine xi_iastore (pc' := 53) (x' := y69) kc_178_52 rfl A68 rfl (xi_in (by omega) (by rw [hy68]; omega)) s69 (fun hh69 eh69 => ?_)
                    have K70 := xk_pa K66 (xk_wa rfl) xD_89 hy69 ry69 eh69
                    refine xi_aload_n (pc' := 54) (x := 85) kc_178_53 rfl rfl ?_
                    refine xi_dup (pc' := 55) kc_178_54 rfl rfl ?_
                    have A71 := ((eh69.2.1 85 (by decide)).trans A67)
                    refine xi_getfield (pc' := 58) (v := .int u53) kc_178_55 rfl rfl rfl A71 rfl ?_
                    refine xi_iconst (pc' := 59) (v := 1) kc_178_58 rfl rfl ?_
                    refine xcps2 (α := Int32) (u53 + 1) (fun v72 ev72 => ?_)
                    have zv72 : v72.toInt = (u53.toInt + 1) := by rw [← ev72]; exact (xz_add (X := u53.toInt) (Y := 1) rfl (by decide) (by omega) (by omega)).trans (by omega)
                    refine xi_iadd (pc' := 60) (v := v72) kc_178_59 rfl ev72 ?_
                    refine xi_putfield (pc' := 63) (fs' := [.ref 86, .ref 87, .ref 88, .ref 89, .ref 90, .ref 91, .ref 92, .int u52, .int v72]) kc_178_60 rfl rfl rfl A71 rfl rfl rfl (Nat.le_of_ble_eq_true rfl) rfl (fun hh74 eh73 => ?_)
                    have K75 := xk_pf (k := 8) (v := v72) K70 (xk_wf rfl) xD_85 A71 rfl (by first | omega | decide) (by first | omega | decide) eh73 rfl
                    refine xi_aload_n (pc' := 64) (x := 85) kc_178_63 rfl rfl ?_
                    refine xi_getfield (pc' := 67) (v := .int v72) kc_178_64 rfl rfl rfl eh73.1 rfl ?_
                    refine xi_iconst (pc' := 68) (v := 1) kc_178_67 rfl rfl ?_
                    refine xcps2 (α := Int32) (v72 - 1) (fun v76 ev76 => ?_)
                    have zv76 : v76.toInt = u53.toInt := by rw [← ev76]; exact (xz_sub (X := (u53.toInt + 1)) (Y := 1) zv72 (by decide) (by omega) (by omega)).trans (by omega)
                    refine xi_isub (pc' := 69) (v := v76) kc_178_68 rfl ev76 ?_
                    refine xi_ireturn kc_178_69 mr_178 rfl ?_
                    show xw J ov (d + 1) 177 (90, [(0, .ref 0), (1, .int x1), (2, .int x2), (3, .int x3), (4, .int x4)], [.int v76], hh74) _
                    refine xi_ireturn kc_177_90 mr_177 rfl ?_
                    exact kk v76 hh74 (by omega) K75
                  · refine xi_cmf (pc' := 71) kc_177_68 rfl (xc_lt_f (X := u53.toInt) (Y := 12) rfl (by decide) (by omega)) ?_
                    refine xi_aload_n (pc' := 72) (x := 0) kc_177_71 rfl rfl ?_
                    refine xi_bipush (pc' := 74) (v := (-6)) kc_177_72 rfl rfl ?_
                    refine xi_virtual (mj := 90) (as := [.int (-6)]) (st1 := []) (lv0 := [(0, .ref 0), (1, .int (-6))]) kc_177_74 rfl rfl rfl rfl rfl A31 (Nat.le_of_ble_eq_true rfl) (hJ _ _ _ _ (by decide)) (xm_le ml_90 rfl) rfl ?_
                    refine xi_iload_n (pc' := 1) (x := (-6)) kc_90_0 rfl rfl ?_
                    refine xi_ineg (pc' := 2) (v := 6) kc_90_1 rfl rfl ?_
                    refine xi_istore_n (pc' := 3) (lv' := [(2, .int 6), (0, .ref 0), (1, .int (-6))]) kc_90_2 rfl rfl (xm_lt ml_90 rfl) ?_
                    refine xi_iload_n (pc' := 4) (x := 6) kc_90_3 rfl rfl ?_
                    refine xi_iff (pc' := 7) kc_90_4 rfl rfl ?_
                    refine xi_iload_n (pc' := 8) (x := 6) kc_90_7 rfl rfl ?_
                    refine xi_aload_n (pc' := 9) (x := 0) kc_90_8 rfl rfl ?_
                    refine xi_getfield (pc' := 12) (v := .ref 94) kc_90_9 rfl rfl rfl A31 rfl ?_
                    refine xcps4 (xk_arr K.1 xD_94) (fun y77 A77 hy77 ry77 => ?_)
                    refine xi_arraylength (pc' := 13) (n := 7) (v := 7) kc_90_12 rfl (xl_lenI (by decide) (by decide) A77 hy77) rfl ?_
                    refine xi_cmf (pc' := 16) kc_90_13 rfl rfl ?_
                    refine xi_aload_n (pc' := 17) (x := 0) kc_90_16 rfl rfl ?_
                    refine xi_getfield (pc' := 20) (v := .ref 94) kc_90_17 rfl rfl rfl A31 rfl ?_
                    refine xi_iload_n (pc' := 21) (x := 6) kc_90_20 rfl rfl ?_
                    refine xi_dup2 (pc' := 22) kc_90_21 rfl ⟨rfl, rfl⟩ ?_
                    refine xcps4 (xj_get hy77 ry77 (i := 6) (by decide) (by decide)) (fun v78 ev78 bv78 dv78 => ?_)
                    refine xi_iaload (pc' := 23) (v := v78) kc_90_22 rfl A77 (by decide) rfl (xi_in (by decide) (by rw [hy77]; decide)) ev78 ?_
                    refine xi_iconst (pc' := 24) (v := 1) kc_90_23 rfl rfl ?_
                    refine xcps2 (α := Int32) ((v78 : Int32) + 1) (fun v79 ev79 => ?_)
                    have rv79 := xc_rng v79
                    refine xi_iadd (pc' := 25) (v := v79) kc_90_24 rfl ev79 ?_
                    refine xcps4 (xj_set (v := v79) hy77 ry77 6 (by first | omega | decide) (by first | omega | decide)) (fun y80 s80 hy80 ry80 => ?_)
                    refine xi_iastore (pc' := 26) (x' := y80) kc_90_25 rfl A77 rfl (xi_in (by decide) (by rw [hy77]; decide)) s80 (fun hh80 eh80 => ?_)
                    have K81 := xk_pa K (xk_wa rfl) xD_94 hy80 ry80 eh80
                    refine xi_iload_n (pc' := 27) (x := (-6)) kc_90_26 rfl rfl ?_
                    refine xi_ireturn kc_90_27 mr_90 rfl ?_
                    show xw J ov (d + 1) 177 (77, [(0, .ref 0), (1, .int x1), (2, .int x2), (3, .int x3), (4, .int x4)], [.int (-6)], hh80) _
                    refine xi_ireturn kc_177_77 mr_177 rfl ?_
                    have zcm6 : ((-6) : Int32).toInt = (-6) := by decide
                    exact kk (-6) hh80 (by omega) K81
            · refine xi_iff (pc' := 39) kc_177_36 rfl (xc_ge_f (X := x4.toInt) (Y := 0) rfl (by decide) (by omega)) ?_
              refine xi_aload_n (pc' := 40) (x := 0) kc_177_39 rfl rfl ?_
              refine xi_bipush (pc' := 42) (v := (-4)) kc_177_40 rfl rfl ?_
              refine xi_virtual (mj := 90) (as := [.int (-4)]) (st1 := []) (lv0 := [(0, .ref 0), (1, .int (-4))]) kc_177_42 rfl rfl rfl rfl rfl A31 (Nat.le_of_ble_eq_true rfl) (hJ _ _ _ _ (by decide)) (xm_le ml_90 rfl) rfl ?_
              refine xi_iload_n (pc' := 1) (x := (-4)) kc_90_0 rfl rfl ?_
              refine xi_ineg (pc' := 2) (v := 4) kc_90_1 rfl rfl ?_
              refine xi_istore_n (pc' := 3) (lv' := [(2, .int 4), (0, .ref 0), (1, .int (-4))]) kc_90_2 rfl rfl (xm_lt ml_90 rfl) ?_
              refine xi_iload_n (pc' := 4) (x := 4) kc_90_3 rfl rfl ?_
              refine xi_iff (pc' := 7) kc_90_4 rfl rfl ?_
              refine xi_iload_n (pc' := 8) (x := 4) kc_90_7 rfl rfl ?_
              refine xi_aload_n (pc' := 9) (x := 0) kc_90_8 rfl rfl ?_
              refine xi_getfield (pc' := 12) (v := .ref 94) kc_90_9 rfl rfl rfl A31 rfl ?_
              refine xcps4 (xk_arr K.1 xD_94) (fun y82 A82 hy82 ry82 => ?_)
              refine xi_arraylength (pc' := 13) (n := 7) (v := 7) kc_90_12 rfl (xl_lenI (by decide) (by decide) A82 hy82) rfl ?_
              refine xi_cmf (pc' := 16) kc_90_13 rfl rfl ?_
              refine xi_aload_n (pc' := 17) (x := 0) kc_90_16 rfl rfl ?_
              refine xi_getfield (pc' := 20) (v := .ref 94) kc_90_17 rfl rfl rfl A31 rfl ?_
              refine xi_iload_n (pc' := 21) (x := 4) kc_90_20 rfl rfl ?_
              refine xi_dup2 (pc' := 22) kc_90_21 rfl ⟨rfl, rfl⟩ ?_
              refine xcps4 (xj_get hy82 ry82 (i := 4) (by decide) (by decide)) (fun v83 ev83 bv83 dv83 => ?_)
              refine xi_iaload (pc' := 23) (v := v83) kc_90_22 rfl A82 (by decide) rfl (xi_in (by decide) (by rw [hy82]; decide)) ev83 ?_
              refine xi_iconst (pc' := 24) (v := 1) kc_90_23 rfl rfl ?_
              refine xcps2 (α := Int32) ((v83 : Int32) + 1) (fun v84 ev84 => ?_)
              have rv84 := xc_rng v84
              refine xi_iadd (pc' := 25) (v := v84) kc_90_24 rfl ev84 ?_
              refine xcps4 (xj_set (v := v84) hy82 ry82 4 (by first | omega | decide) (by first | omega | decide)) (fun y85 s85 hy85 ry85 => ?_)
              refine xi_iastore (pc' := 26) (x' := y85) kc_90_25 rfl A82 rfl (xi_in (by decide) (by rw [hy82]; decide)) s85 (fun hh85 eh85 => ?_)
              have K86 := xk_pa K (xk_wa rfl) xD_94 hy85 ry85 eh85
              refine xi_iload_n (pc' := 27) (x := (-4)) kc_90_26 rfl rfl ?_
              refine xi_ireturn kc_90_27 mr_90 rfl ?_
              show xw J ov (d + 1) 177 (45, [(0, .ref 0), (1, .int x1), (2, .int x2), (3, .int x3), (4, .int x4)], [.int (-4)], hh85) _
              refine xi_ireturn kc_177_45 mr_177 rfl ?_
              have zcm4 : ((-4) : Int32).toInt = (-4) := by decide
              exact kk (-4) hh85 (by omega) K86
        · refine xi_cmf (pc' := 16) kc_177_13 rfl (xc_le_f (X := x3.toInt) (Y := 1) rfl (by decide) (by omega)) ?_
          refine xi_aload_n (pc' := 17) (x := 0) kc_177_16 rfl rfl ?_
          refine xi_bipush (pc' := 19) (v := (-2)) kc_177_17 rfl rfl ?_
          refine xp_0 K.1 (fun u87 u88 bu87 bu88 A89 => ?_)
          refine xi_virtual (mj := 90) (as := [.int (-2)]) (st1 := []) (lv0 := [(0, .ref 0), (1, .int (-2))]) kc_177_19 rfl rfl rfl rfl rfl A89 (Nat.le_of_ble_eq_true rfl) (hJ _ _ _ _ (by decide)) (xm_le ml_90 rfl) rfl ?_
          refine xi_iload_n (pc' := 1) (x := (-2)) kc_90_0 rfl rfl ?_
          refine xi_ineg (pc' := 2) (v := 2) kc_90_1 rfl rfl ?_
          refine xi_istore_n (pc' := 3) (lv' := [(2, .int 2), (0, .ref 0), (1, .int (-2))]) kc_90_2 rfl rfl (xm_lt ml_90 rfl) ?_
          refine xi_iload_n (pc' := 4) (x := 2) kc_90_3 rfl rfl ?_
          refine xi_iff (pc' := 7) kc_90_4 rfl rfl ?_
          refine xi_iload_n (pc' := 8) (x := 2) kc_90_7 rfl rfl ?_
          refine xi_aload_n (pc' := 9) (x := 0) kc_90_8 rfl rfl ?_
          refine xi_getfield (pc' := 12) (v := .ref 94) kc_90_9 rfl rfl rfl A89 rfl ?_
          refine xcps4 (xk_arr K.1 xD_94) (fun y90 A90 hy90 ry90 => ?_)
          refine xi_arraylength (pc' := 13) (n := 7) (v := 7) kc_90_12 rfl (xl_lenI (by decide) (by decide) A90 hy90) rfl ?_
          refine xi_cmf (pc' := 16) kc_90_13 rfl rfl ?_
          refine xi_aload_n (pc' := 17) (x := 0) kc_90_16 rfl rfl ?_
          refine xi_getfield (pc' := 20) (v := .ref 94) kc_90_17 rfl rfl rfl A89 rfl ?_
          refine xi_iload_n (pc' := 21) (x := 2) kc_90_20 rfl rfl ?_
          refine xi_dup2 (pc' := 22) kc_90_21 rfl ⟨rfl, rfl⟩ ?_
          refine xcps4 (xj_get hy90 ry90 (i := 2) (by decide) (by decide)) (fun v91 ev91 bv91 dv91 => ?_)
          refine xi_iaload (pc' := 23) (v := v91) kc_90_22 rfl A90 (by decide) rfl (xi_in (by decide) (by rw [hy90]; decide)) ev91 ?_
          refine xi_iconst (pc' := 24) (v := 1) kc_90_23 rfl rfl ?_
          refine xcps2 (α := Int32) ((v91 : Int32) + 1) (fun v92 ev92 => ?_)
          have rv92 := xc_rng v92
          refine xi_iadd (pc' := 25) (v := v92) kc_90_24 rfl ev92 ?_
          refine xcps4 (xj_set (v := v92) hy90 ry90 2 (by first | omega | decide) (by first | omega | decide)) (fun y93 s93 hy93 ry93 => ?_)
          refine xi_iastore (pc' := 26) (x' := y93) kc_90_25 rfl A90 rfl (xi_in (by decide) (by rw [hy90]; decide)) s93 (fun hh93 eh93 => ?_)
          have K94 := xk_pa K (xk_wa rfl) xD_94 hy93 ry93 eh93
          refine xi_iload_n (pc' := 27) (x := (-2)) kc_90_26 rfl rfl ?_
          refine xi_ireturn kc_90_27 mr_90 rfl ?_
          show xw J ov (d + 1) 177 (22, [(0, .ref 0), (1, .int x1), (2, .int x2), (3, .int x3), (4, .int x4)], [.int (-2)], hh93) _
          refine xi_ireturn kc_177_22 mr_177 rfl ?_
          have zcm2 : ((-2) : Int32).toInt = (-2) := by decide
          exact kk (-2) hh93 (by omega) K94
set_option maxHeartbeats 4000000 in
theorem mt_179_0 {J : xe_J} {ov : List (List Int32)} (hJ : ∀ d mj as h, mj ≠ xe_loff → J d mj as h = none) (hov1 : ov[1]? = some [10, 0, 0, 0, 0, 0]) (hov2 : ov[2]? = some [99, 30, 50, 50, 1, 99999]) {d : Nat} {Q : Option Value → xe_H → Prop} {h : xe_H} {x1 : Int32} (T : xt h) (b1 : (0 ≤ x1.toInt ∧ x1.toInt ≤ 1)) (kk : (∀ (r : Int32) (h' : xe_H), (0 ≤ r.toInt ∧ r.toInt ≤ 1) → xk [(0, 9), (115, 1), (83, 0), (29, 0), (31, 0), (33, 0), (35, 0), (37, 0), (39, 0), (41, 0), (43, 0), (45, 0), (47, 0), (49, 0), (51, 0), (125, 0), (29, 2), (31, 2), (33, 2), (35, 2), (37, 2), (39, 2), (41, 2), (43, 2), (45, 2), (47, 2), (49, 2), (51, 2), (127, 0), (1, 5), (115, 23)] h h' → Q (some (.int r)) h')) : xw J ov (d + 1) 179 (0, [(0, .ref 0), (1, .int x1)], [], h) Q := by
  have K : xk [(0, 9), (115, 1), (83, 0), (29, 0), (31, 0), (33, 0), (35, 0), (37, 0), (39, 0), (41, 0), (43, 0), (45, 0), (47, 0), (49, 0), (51, 0), (125, 0), (29, 2), (31, 2), (33, 2), (35, 2), (37, 2), (39, 2), (41, 2), (43, 2), (45, 2), (47, 2), (49, 2), (51, 2), (127, 0), (1, 5), (115, 23)] h h := xk_re T
  refine xi_aload_n (pc' := 1) (x := 0) kc_179_0 rfl rfl ?_
  refine xp_0 K.1 (fun u1 u2 bu1 bu2 A3 => ?_)
  refine xi_getfield (pc' := 4) (v := .ref 85) kc_179_1 rfl rfl rfl A3 rfl ?_
  refine xp_85 K.1 (fun u4 u5 bu4 bu5 A6 => ?_)
  refine xi_getfield (pc' := 7) (v := .int u4) kc_179_4 rfl rfl rfl A6 rfl ?_
  refine xi_iload_n (pc' := 8) (x := x1) kc_179_7 rfl rfl ?_
  by_cases c7 : u4.toInt = x1.toInt
  · refine xi_cmf (pc' := 11) kc_179_8 rfl (xc_ne_f (X := u4.toInt) (Y := x1.toInt) rfl rfl (by omega)) ?_
    refine xi_iconst (pc' := 12) (v := 0) kc_179_11 rfl rfl ?_
    refine xi_ireturn kc_179_12 mr_179 rfl ?_
    have zc0 : (0 : Int32).toInt = 0 := by decide
    exact kk 0 h (by omega) K
  · refine xi_cmt (pc' := 13) kc_179_8 rfl (xc_ne_t (X := u4.toInt) (Y := x1.toInt) rfl rfl (by omega)) ?_
    refine xi_aload_n (pc' := 14) (x := 0) kc_179_13 rfl rfl ?_
    refine xi_getfield (pc' := 17) (v := .ref 85) kc_179_14 rfl rfl rfl A3 rfl ?_
    refine xi_iload_n (pc' := 18) (x := x1) kc_179_17 rfl rfl ?_
    by_cases c8 : x1.toInt = 0
    · have qx1 : x1 = 0 := xc_of (Eq.trans (by omega) (show (0 : Int) = (0 : Int32).toInt by decide))
      subst qx1
      refine xi_putfield (pc' := 21) (fs' := [.ref 86, .ref 87, .ref 88, .ref 89, .ref 90, .ref 91, .ref 92, .int 0, .int u5]) kc_179_18 rfl rfl rfl A6 rfl rfl rfl (Nat.le_of_ble_eq_true rfl) rfl (fun hh10 eh9 => ?_)
      have K11 := xk_pf (k := 7) (v := 0) K (xk_wf rfl) xD_85 A6 rfl (by first | omega | decide) (by first | omega | decide) eh9 rfl
      refine xi_iconst (pc' := 22) (v := 1) kc_179_21 rfl rfl ?_
      refine xi_ireturn kc_179_22 mr_179 rfl ?_
      have zc1 : (1 : Int32).toInt = 1 := by decide
      exact kk 1 hh10 (by omega) K11
    have qx1 : x1 = 1 := xc_of (Eq.trans (by omega) (show (1 : Int) = (1 : Int32).toInt by decide))
    subst qx1
    refine xi_putfield (pc' := 21) (fs' := [.ref 86, .ref 87, .ref 88, .ref 89, .ref 90, .ref 91, .ref 92, .int 1, .int u5]) kc_179_18 rfl rfl rfl A6 rfl rfl rfl (Nat.le_of_ble_eq_true rfl) rfl (fun hh13 eh12 => ?_)
    have K14 := xk_pf (k := 7) (v := 1) K (xk_wf rfl) xD_85 A6 rfl (by first | omega | decide) (by first | omega | decide) eh12 rfl
    refine xi_iconst (pc' := 22) (v := 1) kc_179_21 rfl rfl ?_
    refine xi_ireturn kc_179_22 mr_179 rfl ?_
    have zc1 : (1 : Int32).toInt = 1 := by decide
    exact kk 1 hh13 (by omega) K14
set_option maxHeartbeats 4000000 in
theorem lp_19_0 {J : xe_J} {ov : List (List Int32)} (hJ : ∀ d mj as h, mj ≠ xe_loff → J d mj as h = none) (hov1 : ov[1]? = some [10, 0, 0, 0, 0, 0]) (hov2 : ov[2]? = some [99, 30, 50, 50, 1, 99999]) {d : Nat} {Q : Option Value → xe_H → Prop} {hb : xe_H} (kk : (∀ (r : Int32) (h' : xe_H), xk [(0, 9), (115, 1), (83, 0), (29, 0), (31, 0), (33, 0), (35, 0), (37, 0), (39, 0), (41, 0), (43, 0), (45, 0), (47, 0), (49, 0), (51, 0), (125, 0), (29, 2), (31, 2), (33, 2), (35, 2), (37, 2), (39, 2), (41, 2), (43, 2), (45, 2), (47, 2), (49, 2), (51, 2), (127, 0), (1, 5), (115, 23)] hb h' → Q (some (.int r)) h')) : ∀ m : Nat, (∀ (x2 : Int32) (h : xe_H), ((-1) ≤ x2.toInt ∧ x2.toInt ≤ 599) → xk [(0, 9), (115, 1), (83, 0), (29, 0), (31, 0), (33, 0), (35, 0), (37, 0), (39, 0), (41, 0), (43, 0), (45, 0), (47, 0), (49, 0), (51, 0), (125, 0), (29, 2), (31, 2), (33, 2), (35, 2), (37, 2), (39, 2), (41, 2), (43, 2), (45, 2), (47, 2), (49, 2), (51, 2), (127, 0), (1, 5), (115, 23)] hb h → (1) * x2.toInt + 1 < (m : Int) → xw J ov (d + 1) 19 (15, [(0, .ref 115), (2, .int x2)], [], h) Q) := by
  intro m
  induction m with
  | zero =>
    intro x2 h b2 K hm; exfalso; omega
  | succ m ih =>
    have i0 := ih
    intro x2 h b2 K hm
    refine xi_iload_n (pc' := 16) (x := x2) kc_19_15 rfl rfl ?_
    by_cases c1 : x2.toInt < 0
    · refine xi_ift (pc' := 43) kc_19_16 rfl (xc_lt_t (X := x2.toInt) (Y := 0) rfl (by decide) (by omega)) ?_
      refine xi_iconst (pc' := 44) (v := 5) kc_19_43 rfl rfl ?_
      refine xi_ireturn kc_19_44 mr_19 rfl ?_
      have zc5 : (5 : Int32).toInt = 5 := by decide
      exact kk 5 h K
    · refine xi_iff (pc' := 19) kc_19_16 rfl (xc_lt_f (X := x2.toInt) (Y := 0) rfl (by decide) (by omega)) ?_
      refine xi_aload_n (pc' := 20) (x := 115) kc_19_19 rfl rfl ?_
      refine xp_115 K.1 (fun u2 u3 u4 u5 u6 u7 u8 u9 u10 u11 u12 u13 u14 bu2 bu3 bu4 bu5 bu6 bu7 bu8 bu9 bu10 bu11 bu12 bu13 bu14 A15 => ?_)
      refine xi_getfield (pc' := 23) (v := .ref 123) kc_19_20 rfl rfl rfl A15 rfl ?_
      refine xi_iload_n (pc' := 24) (x := x2) kc_19_23 rfl rfl ?_
      refine xcps4 (xk_arr K.1 xD_123) (fun y16 A16 hy16 ry16 => ?_)
      refine xcps4 (xj_get hy16 ry16 (i := x2) (by omega) (by omega)) (fun v17 ev17 bv17 dv17 => ?_)
      refine xi_iaload (pc' := 25) (v := v17) kc_19_24 rfl A16 (by decide) rfl (xi_in (by omega) (by rw [hy16]; omega)) ev17 ?_
      refine xi_bipush (pc' := 27) (v := 99) kc_19_25 rfl rfl ?_
      by_cases c18 : v17.toInt = 99
      · refine xi_cmt (pc' := 37) kc_19_27 rfl (xc_eq_t (X := v17.toInt) (Y := 99) rfl (by decide) (by omega)) ?_
        refine xcps2 (α := Int32) (x2 + (-1)) (fun v19 ev19 => ?_)
        have zv19 : v19.toInt = (x2.toInt + (-1)) := by rw [← ev19]; exact (xz_add (X := x2.toInt) (Y := (-1)) rfl (by decide) (by omega) (by omega)).trans (by omega)
        refine xi_iinc (pc' := 40) (x := x2) (v := v19) (lv' := [(2, .int v19), (0, .ref 115)]) kc_19_37 rfl rfl ev19 rfl (xm_lt ml_19 rfl) ?_
        refine xi_goto (pc' := 15) kc_19_40 rfl ?_
        refine xw_lv (b := [(0, .ref 115), (2, .int v19)]) (lvS_cons (lvS_cons (lvS_nil (show ([2, 0] : List Nat).Nodup by decide)) rfl) rfl) ?_
        exact i0 v19 h (by omega) K (by omega)
      · refine xi_cmf (pc' := 30) kc_19_27 rfl (xc_eq_f (X := v17.toInt) (Y := 99) rfl (by decide) (by omega)) ?_
        refine xi_aload_n (pc' := 31) (x := 115) kc_19_30 rfl rfl ?_
        refine xi_getfield (pc' := 34) (v := .ref 123) kc_19_31 rfl rfl rfl A15 rfl ?_
        refine xi_iload_n (pc' := 35) (x := x2) kc_19_34 rfl rfl ?_
        refine xi_iaload (pc' := 36) (v := v17) kc_19_35 rfl A16 (by decide) rfl (xi_in (by omega) (by rw [hy16]; omega)) ev17 ?_
        refine xi_ireturn kc_19_36 mr_19 rfl ?_
        exact kk v17 h K
set_option maxHeartbeats 4000000 in
theorem mt_19_0 {J : xe_J} {ov : List (List Int32)} (hJ : ∀ d mj as h, mj ≠ xe_loff → J d mj as h = none) (hov1 : ov[1]? = some [10, 0, 0, 0, 0, 0]) (hov2 : ov[2]? = some [99, 30, 50, 50, 1, 99999]) {d : Nat} {Q : Option Value → xe_H → Prop} {h : xe_H} {x1 : Int32} (T : xt h) (b1 : (0 ≤ x1.toInt ∧ x1.toInt ≤ 600)) (kk : (∀ (r : Int32) (h' : xe_H), xk [(0, 9), (115, 1), (83, 0), (29, 0), (31, 0), (33, 0), (35, 0), (37, 0), (39, 0), (41, 0), (43, 0), (45, 0), (47, 0), (49, 0), (51, 0), (125, 0), (29, 2), (31, 2), (33, 2), (35, 2), (37, 2), (39, 2), (41, 2), (43, 2), (45, 2), (47, 2), (49, 2), (51, 2), (127, 0), (1, 5), (115, 23)] h h' → Q (some (.int r)) h')) : xw J ov (d + 1) 19 (0, [(0, .ref 115), (1, .int x1)], [], h) Q := by
  have K : xk [(0, 9), (115, 1), (83, 0), (29, 0), (31, 0), (33, 0), (35, 0), (37, 0), (39, 0), (41, 0), (43, 0), (45, 0), (47, 0), (49, 0), (51, 0), (125, 0), (29, 2), (31, 2), (33, 2), (35, 2), (37, 2), (39, 2), (41, 2), (43, 2), (45, 2), (47, 2), (49, 2), (51, 2), (127, 0), (1, 5), (115, 23)] h h := xk_re T
  refine xi_iload_n (pc' := 1) (x := x1) kc_19_0 rfl rfl ?_
  refine xi_sipush (pc' := 4) (v := 599) kc_19_1 rfl rfl ?_
  by_cases c1 : 599 ≤ x1.toInt
  · refine xi_cmt (pc' := 11) kc_19_4 rfl (xc_ge_t (X := x1.toInt) (Y := 599) rfl (by decide) (by omega)) ?_
    refine xi_sipush (pc' := 14) (v := 599) kc_19_11 rfl rfl ?_
    refine xi_istore_n (pc' := 15) (lv' := [(2, .int 599), (0, .ref 115), (1, .int x1)]) kc_19_14 rfl rfl (xm_lt ml_19 rfl) ?_
    have zc599 : (599 : Int32).toInt = 599 := by decide
    refine xw_lv (b := [(0, .ref 115), (2, .int 599)]) (lvS_cons (lvS_cons (lvS_nil (show ([2, 0, 1] : List Nat).Nodup by decide)) rfl) rfl) ?_
    exact (lp_19_0 hJ hov1 hov2 (d := d) (hb := h) (fun r9 h9 K9 => kk r9 h9 (xk_tr K K9 rfl)) 601) 599 h (by omega) (xk_re K.1) (by omega)
  · refine xi_cmf (pc' := 7) kc_19_4 rfl (xc_ge_f (X := x1.toInt) (Y := 599) rfl (by decide) (by omega)) ?_
    refine xi_iload_n (pc' := 8) (x := x1) kc_19_7 rfl rfl ?_
    refine xi_goto (pc' := 14) kc_19_8 rfl ?_
    refine xi_istore_n (pc' := 15) (lv' := [(2, .int x1), (0, .ref 115), (1, .int x1)]) kc_19_14 rfl rfl (xm_lt ml_19 rfl) ?_
    refine xw_lv (b := [(0, .ref 115), (2, .int x1)]) (lvS_cons (lvS_cons (lvS_nil (show ([2, 0, 1] : List Nat).Nodup by decide)) rfl) rfl) ?_
    exact (lp_19_0 hJ hov1 hov2 (d := d) (hb := h) (fun r9 h9 K9 => kk r9 h9 (xk_tr K K9 rfl)) 601) x1 h (by omega) (xk_re K.1) (by omega)
set_option maxHeartbeats 4000000 in
theorem lp_20_0 {J : xe_J} {ov : List (List Int32)} (hJ : ∀ d mj as h, mj ≠ xe_loff → J d mj as h = none) (hov1 : ov[1]? = some [10, 0, 0, 0, 0, 0]) (hov2 : ov[2]? = some [99, 30, 50, 50, 1, 99999]) {d : Nat} {Q : Option Value → xe_H → Prop} {hb : xe_H} (kk : (∀ (r : Int32) (h' : xe_H), xk [(0, 9), (115, 1), (83, 0), (29, 0), (31, 0), (33, 0), (35, 0), (37, 0), (39, 0), (41, 0), (43, 0), (45, 0), (47, 0), (49, 0), (51, 0), (125, 0), (29, 2), (31, 2), (33, 2), (35, 2), (37, 2), (39, 2), (41, 2), (43, 2), (45, 2), (47, 2), (49, 2), (51, 2), (127, 0), (1, 5), (115, 23)] hb h' → Q (some (.int r)) h')) : ∀ m : Nat, (∀ (x2 : Int32) (h : xe_H), ((-1) ≤ x2.toInt ∧ x2.toInt ≤ 599) → xk [(0, 9), (115, 1), (83, 0), (29, 0), (31, 0), (33, 0), (35, 0), (37, 0), (39, 0), (41, 0), (43, 0), (45, 0), (47, 0), (49, 0), (51, 0), (125, 0), (29, 2), (31, 2), (33, 2), (35, 2), (37, 2), (39, 2), (41, 2), (43, 2), (45, 2), (47, 2), (49, 2), (51, 2), (127, 0), (1, 5), (115, 23)] hb h → (1) * x2.toInt + 1 < (m : Int) → xw J ov (d + 1) 20 (15, [(0, .ref 115), (2, .int x2)], [], h) Q) := by
  intro m
  induction m with
  | zero =>
    intro x2 h b2 K hm; exfalso; omega
  | succ m ih =>
    have i0 := ih
    intro x2 h b2 K hm
    refine xi_iload_n (pc' := 16) (x := x2) kc_20_15 rfl rfl ?_
    by_cases c1 : x2.toInt < 0
    · refine xi_ift (pc' := 43) kc_20_16 rfl (xc_lt_t (X := x2.toInt) (Y := 0) rfl (by decide) (by omega)) ?_
      refine xi_iconst (pc' := 44) (v := 0) kc_20_43 rfl rfl ?_
      refine xi_ireturn kc_20_44 mr_20 rfl ?_
      have zc0 : (0 : Int32).toInt = 0 := by decide
      exact kk 0 h K
    · refine xi_iff (pc' := 19) kc_20_16 rfl (xc_lt_f (X := x2.toInt) (Y := 0) rfl (by decide) (by omega)) ?_
      refine xi_aload_n (pc' := 20) (x := 115) kc_20_19 rfl rfl ?_
      refine xp_115 K.1 (fun u2 u3 u4 u5 u6 u7 u8 u9 u10 u11 u12 u13 u14 bu2 bu3 bu4 bu5 bu6 bu7 bu8 bu9 bu10 bu11 bu12 bu13 bu14 A15 => ?_)
      refine xi_getfield (pc' := 23) (v := .ref 124) kc_20_20 rfl rfl rfl A15 rfl ?_
      refine xi_iload_n (pc' := 24) (x := x2) kc_20_23 rfl rfl ?_
      refine xcps4 (xk_arr K.1 xD_124) (fun y16 A16 hy16 ry16 => ?_)
      refine xcps4 (xj_get hy16 ry16 (i := x2) (by omega) (by omega)) (fun v17 ev17 bv17 dv17 => ?_)
      refine xi_iaload (pc' := 25) (v := v17) kc_20_24 rfl A16 (by decide) rfl (xi_in (by omega) (by rw [hy16]; omega)) ev17 ?_
      refine xi_bipush (pc' := 27) (v := 99) kc_20_25 rfl rfl ?_
      by_cases c18 : v17.toInt = 99
      · refine xi_cmt (pc' := 37) kc_20_27 rfl (xc_eq_t (X := v17.toInt) (Y := 99) rfl (by decide) (by omega)) ?_
        refine xcps2 (α := Int32) (x2 + (-1)) (fun v19 ev19 => ?_)
        have zv19 : v19.toInt = (x2.toInt + (-1)) := by rw [← ev19]; exact (xz_add (X := x2.toInt) (Y := (-1)) rfl (by decide) (by omega) (by omega)).trans (by omega)
        refine xi_iinc (pc' := 40) (x := x2) (v := v19) (lv' := [(2, .int v19), (0, .ref 115)]) kc_20_37 rfl rfl ev19 rfl (xm_lt ml_20 rfl) ?_
        refine xi_goto (pc' := 15) kc_20_40 rfl ?_
        refine xw_lv (b := [(0, .ref 115), (2, .int v19)]) (lvS_cons (lvS_cons (lvS_nil (show ([2, 0] : List Nat).Nodup by decide)) rfl) rfl) ?_
        exact i0 v19 h (by omega) K (by omega)
      · refine xi_cmf (pc' := 30) kc_20_27 rfl (xc_eq_f (X := v17.toInt) (Y := 99) rfl (by decide) (by omega)) ?_
        refine xi_aload_n (pc' := 31) (x := 115) kc_20_30 rfl rfl ?_
        refine xi_getfield (pc' := 34) (v := .ref 124) kc_20_31 rfl rfl rfl A15 rfl ?_
        refine xi_iload_n (pc' := 35) (x := x2) kc_20_34 rfl rfl ?_
        refine xi_iaload (pc' := 36) (v := v17) kc_20_35 rfl A16 (by decide) rfl (xi_in (by omega) (by rw [hy16]; omega)) ev17 ?_
        refine xi_ireturn kc_20_36 mr_20 rfl ?_
        exact kk v17 h K
set_option maxHeartbeats 4000000 in
theorem mt_20_0 {J : xe_J} {ov : List (List Int32)} (hJ : ∀ d mj as h, mj ≠ xe_loff → J d mj as h = none) (hov1 : ov[1]? = some [10, 0, 0, 0, 0, 0]) (hov2 : ov[2]? = some [99, 30, 50, 50, 1, 99999]) {d : Nat} {Q : Option Value → xe_H → Prop} {h : xe_H} {x1 : Int32} (T : xt h) (b1 : (0 ≤ x1.toInt ∧ x1.toInt ≤ 599)) (kk : (∀ (r : Int32) (h' : xe_H), xk [(0, 9), (115, 1), (83, 0), (29, 0), (31, 0), (33, 0), (35, 0), (37, 0), (39, 0), (41, 0), (43, 0), (45, 0), (47, 0), (49, 0), (51, 0), (125, 0), (29, 2), (31, 2), (33, 2), (35, 2), (37, 2), (39, 2), (41, 2), (43, 2), (45, 2), (47, 2), (49, 2), (51, 2), (127, 0), (1, 5), (115, 23)] h h' → Q (some (.int r)) h')) : xw J ov (d + 1) 20 (0, [(0, .ref 115), (1, .int x1)], [], h) Q := by
  have K : xk [(0, 9), (115, 1), (83, 0), (29, 0), (31, 0), (33, 0), (35, 0), (37, 0), (39, 0), (41, 0), (43, 0), (45, 0), (47, 0), (49, 0), (51, 0), (125, 0), (29, 2), (31, 2), (33, 2), (35, 2), (37, 2), (39, 2), (41, 2), (43, 2), (45, 2), (47, 2), (49, 2), (51, 2), (127, 0), (1, 5), (115, 23)] h h := xk_re T
  refine xi_iload_n (pc' := 1) (x := x1) kc_20_0 rfl rfl ?_
  refine xi_sipush (pc' := 4) (v := 599) kc_20_1 rfl rfl ?_
  by_cases c1 : 599 ≤ x1.toInt
  · refine xi_cmt (pc' := 11) kc_20_4 rfl (xc_ge_t (X := x1.toInt) (Y := 599) rfl (by decide) (by omega)) ?_
    refine xi_sipush (pc' := 14) (v := 599) kc_20_11 rfl rfl ?_
    refine xi_istore_n (pc' := 15) (lv' := [(2, .int 599), (0, .ref 115), (1, .int x1)]) kc_20_14 rfl rfl (xm_lt ml_20 rfl) ?_
    have zc599 : (599 : Int32).toInt = 599 := by decide
    refine xw_lv (b := [(0, .ref 115), (2, .int 599)]) (lvS_cons (lvS_cons (lvS_nil (show ([2, 0, 1] : List Nat).Nodup by decide)) rfl) rfl) ?_
    exact (lp_20_0 hJ hov1 hov2 (d := d) (hb := h) (fun r9 h9 K9 => kk r9 h9 (xk_tr K K9 rfl)) 601) 599 h (by omega) (xk_re K.1) (by omega)
  · refine xi_cmf (pc' := 7) kc_20_4 rfl (xc_ge_f (X := x1.toInt) (Y := 599) rfl (by decide) (by omega)) ?_
    refine xi_iload_n (pc' := 8) (x := x1) kc_20_7 rfl rfl ?_
    refine xi_goto (pc' := 14) kc_20_8 rfl ?_
    refine xi_istore_n (pc' := 15) (lv' := [(2, .int x1), (0, .ref 115), (1, .int x1)]) kc_20_14 rfl rfl (xm_lt ml_20 rfl) ?_
    refine xw_lv (b := [(0, .ref 115), (2, .int x1)]) (lvS_cons (lvS_cons (lvS_nil (show ([2, 0, 1] : List Nat).Nodup by decide)) rfl) rfl) ?_
    exact (lp_20_0 hJ hov1 hov2 (d := d) (hb := h) (fun r9 h9 K9 => kk r9 h9 (xk_tr K K9 rfl)) 601) x1 h (by omega) (xk_re K.1) (by omega)
set_option maxHeartbeats 4000000 in
theorem mt_18_0 {J : xe_J} {ov : List (List Int32)} (hJ : ∀ d mj as h, mj ≠ xe_loff → J d mj as h = none) (hov1 : ov[1]? = some [10, 0, 0, 0, 0, 0]) (hov2 : ov[2]? = some [99, 30, 50, 50, 1, 99999]) {d : Nat} {Q : Option Value → xe_H → Prop} {h : xe_H} {x1 : Int32} {x2 : Int32} (T : xt h) (kk : (∀ (r : Int32) (h' : xe_H), xk [(0, 9), (115, 1), (83, 0), (29, 0), (31, 0), (33, 0), (35, 0), (37, 0), (39, 0), (41, 0), (43, 0), (45, 0), (47, 0), (49, 0), (51, 0), (125, 0), (29, 2), (31, 2), (33, 2), (35, 2), (37, 2), (39, 2), (41, 2), (43, 2), (45, 2), (47, 2), (49, 2), (51, 2), (127, 0), (1, 5), (115, 23)] h h' → Q (some (.int r)) h')) : xw J ov (d + 2) 18 (0, [(0, .ref 115), (1, .int x1), (2, .int x2)], [], h) Q := by
  have K : xk [(0, 9), (115, 1), (83, 0), (29, 0), (31, 0), (33, 0), (35, 0), (37, 0), (39, 0), (41, 0), (43, 0), (45, 0), (47, 0), (49, 0), (51, 0), (125, 0), (29, 2), (31, 2), (33, 2), (35, 2), (37, 2), (39, 2), (41, 2), (43, 2), (45, 2), (47, 2), (49, 2), (51, 2), (127, 0), (1, 5), (115, 23)] h h := xk_re T
  have rx1 := xc_rng x1
  have rx2 := xc_rng x2
  refine xi_aload_n (pc' := 1) (x := 115) kc_18_0 rfl rfl ?_
  refine xi_iconst (pc' := 2) (v := 0) kc_18_1 rfl rfl ?_
  refine xp_115 K.1 (fun u1 u2 u3 u4 u5 u6 u7 u8 u9 u10 u11 u12 u13 bu1 bu2 bu3 bu4 bu5 bu6 bu7 bu8 bu9 bu10 bu11 bu12 bu13 A14 => ?_)
  refine xi_putfield (pc' := 5) (fs' := [.int 0, .int u2, .ref 116, .ref 117, .ref 118, .ref 119, .ref 120, .ref 121, .ref 122, .ref 123, .ref 124, .ref 125, .ref 126, .ref 127, .ref 128, .ref 129, .int u3, .ref 130, .int u4, .ref 131, .ref 132, .ref 133, .ref 134, .int u5, .ref 135, .ref 136, .ref 137, .ref 138, .ref 139, .ref 140, .ref 141, .ref 142, .int u6, .int u7, .int u8, .ref 143, .ref 144, .ref 145, .ref 146, .ref 147, .ref 148, .int u9, .ref 149, .ref 150, .ref 151, .int u10, .ref 152, .ref 153, .ref 154, .ref 155, .ref 156, .ref 157, .ref 158, .ref 159, .int u11, .ref 160, .int u12, .ref 161, .ref 162, .ref 163, .ref 164, .int u13, .ref 165, .ref 166]) kc_18_2 rfl rfl rfl A14 rfl rfl rfl (Nat.le_of_ble_eq_true rfl) rfl (fun hh16 eh15 => ?_)
  have K17 := xk_pf (k := 0) (v := 0) K (xk_wf rfl) xD_115 A14 rfl (by first | omega | decide) (by first | omega | decide) eh15 rfl
  refine xi_iload_n (pc' := 6) (x := x2) kc_18_5 rfl rfl ?_
  refine xi_iconst (pc' := 7) (v := 0) kc_18_6 rfl rfl ?_
  refine xi_iconst (pc' := 8) (v := 1) kc_18_7 rfl rfl ?_
  refine xi_static (mj := 11) (as := [.int x2, .int 0, .int 1]) (st1 := []) (lv0 := [(0, .int x2), (1, .int 0), (2, .int 1)]) kc_18_8 rfl rfl (Nat.le_of_ble_eq_true rfl) rfl rfl (Nat.le_of_ble_eq_true rfl) (hJ _ _ _ _ (by decide)) (xm_le ml_11 rfl) rfl ?_
  refine xi_iload_n (pc' := 1) (x := x2) kc_11_0 rfl rfl ?_
  refine xi_iload_n (pc' := 2) (x := 0) kc_11_1 rfl rfl ?_
  by_cases c18 : x2.toInt < 0
  · refine xi_cmt (pc' := 14) kc_11_2 rfl (xc_lt_t (X := x2.toInt) (Y := 0) rfl (by decide) (by omega)) ?_
    refine xi_iconst (pc' := 15) (v := 0) kc_11_14 rfl rfl ?_
    refine xi_ireturn kc_11_15 mr_11 rfl ?_
    show xw J ov (d + 2) 18 (11, [(0, .ref 115), (1, .int x1), (2, .int x2)], [.int 0], hh16) _
    refine xi_iff (pc' := 14) kc_18_11 rfl rfl ?_
    refine xi_aload_n (pc' := 15) (x := 115) kc_18_14 rfl rfl ?_
    refine xi_bipush (pc' := 17) (v := (-2)) kc_18_15 rfl rfl ?_
    refine xi_virtual (mj := 17) (as := [.int (-2)]) (st1 := []) (lv0 := [(0, .ref 115), (1, .int (-2))]) kc_18_17 rfl rfl rfl rfl rfl eh15.1 (Nat.le_of_ble_eq_true rfl) (hJ _ _ _ _ (by decide)) (xm_le ml_17 rfl) rfl ?_
    refine xi_aload_n (pc' := 1) (x := 115) kc_17_0 rfl rfl ?_
    refine xi_getfield (pc' := 4) (v := .ref 140) kc_17_1 rfl rfl rfl eh15.1 rfl ?_
    refine xi_iload_n (pc' := 5) (x := (-2)) kc_17_4 rfl rfl ?_
    refine xi_ineg (pc' := 6) (v := 2) kc_17_5 rfl rfl ?_
    refine xi_dup2 (pc' := 7) kc_17_6 rfl ⟨rfl, rfl⟩ ?_
    refine xcps4 (xk_arr K17.1 xD_140) (fun y19 A19 hy19 ry19 => ?_)
    refine xcps4 (xj_get hy19 ry19 (i := 2) (by decide) (by decide)) (fun v20 ev20 bv20 dv20 => ?_)
    refine xi_iaload (pc' := 8) (v := v20) kc_17_7 rfl A19 (by decide) rfl (xi_in (by decide) (by rw [hy19]; decide)) ev20 ?_
    refine xi_iconst (pc' := 9) (v := 1) kc_17_8 rfl rfl ?_
    refine xcps2 (α := Int32) ((v20 : Int32) + 1) (fun v21 ev21 => ?_)
    have rv21 := xc_rng v21
    refine xi_iadd (pc' := 10) (v := v21) kc_17_9 rfl ev21 ?_
    refine xcps4 (xj_set (v := v21) hy19 ry19 2 (by first | omega | decide) (by first | omega | decide)) (fun y22 s22 hy22 ry22 => ?_)
    refine xi_iastore (pc' := 11) (x' := y22) kc_17_10 rfl A19 rfl (xi_in (by decide) (by rw [hy19]; decide)) s22 (fun hh22 eh22 => ?_)
    have K23 := xk_pa K17 (xk_wa rfl) xD_140 hy22 ry22 eh22
    refine xi_ldc (pc' := 13) (v := 1000000000) kc_17_11 rfl rfl ?_
    refine xi_iload_n (pc' := 14) (x := (-2)) kc_17_13 rfl rfl ?_
    refine xi_isub (pc' := 15) (v := 1000000002) kc_17_14 rfl rfl ?_
    refine xi_ireturn kc_17_15 mr_17 rfl ?_
    show xw J ov (d + 2) 18 (20, [(0, .ref 115), (1, .int x1), (2, .int x2)], [.int 1000000002], hh22) _
    refine xi_ireturn kc_18_20 mr_18 rfl ?_
    have zc1000000002 : (1000000002 : Int32).toInt = 1000000002 := by decide
    exact kk 1000000002 hh22 K23
  · refine xi_cmf (pc' := 5) kc_11_2 rfl (xc_lt_f (X := x2.toInt) (Y := 0) rfl (by decide) (by omega)) ?_
    refine xi_iload_n (pc' := 6) (x := x2) kc_11_5 rfl rfl ?_
    refine xi_iload_n (pc' := 7) (x := 1) kc_11_6 rfl rfl ?_
    by_cases c24 : 1 < x2.toInt
    · refine xi_cmt (pc' := 14) kc_11_7 rfl (xc_gt_t (X := x2.toInt) (Y := 1) rfl (by decide) (by omega)) ?_
      refine xi_iconst (pc' := 15) (v := 0) kc_11_14 rfl rfl ?_
      refine xi_ireturn kc_11_15 mr_11 rfl ?_
      show xw J ov (d + 2) 18 (11, [(0, .ref 115), (1, .int x1), (2, .int x2)], [.int 0], hh16) _
      refine xi_iff (pc' := 14) kc_18_11 rfl rfl ?_
      refine xi_aload_n (pc' := 15) (x := 115) kc_18_14 rfl rfl ?_
      refine xi_bipush (pc' := 17) (v := (-2)) kc_18_15 rfl rfl ?_
      refine xi_virtual (mj := 17) (as := [.int (-2)]) (st1 := []) (lv0 := [(0, .ref 115), (1, .int (-2))]) kc_18_17 rfl rfl rfl rfl rfl eh15.1 (Nat.le_of_ble_eq_true rfl) (hJ _ _ _ _ (by decide)) (xm_le ml_17 rfl) rfl ?_
      refine xi_aload_n (pc' := 1) (x := 115) kc_17_0 rfl rfl ?_
      refine xi_getfield (pc' := 4) (v := .ref 140) kc_17_1 rfl rfl rfl eh15.1 rfl ?_
      refine xi_iload_n (pc' := 5) (x := (-2)) kc_17_4 rfl rfl ?_
      refine xi_ineg (pc' := 6) (v := 2) kc_17_5 rfl rfl ?_
      refine xi_dup2 (pc' := 7) kc_17_6 rfl ⟨rfl, rfl⟩ ?_
      refine xcps4 (xk_arr K17.1 xD_140) (fun y25 A25 hy25 ry25 => ?_)
      refine xcps4 (xj_get hy25 ry25 (i := 2) (by decide) (by decide)) (fun v26 ev26 bv26 dv26 => ?_)
      refine xi_iaload (pc' := 8) (v := v26) kc_17_7 rfl A25 (by decide) rfl (xi_in (by decide) (by rw [hy25]; decide)) ev26 ?_
      refine xi_iconst (pc' := 9) (v := 1) kc_17_8 rfl rfl ?_
      refine xcps2 (α := Int32) ((v26 : Int32) + 1) (fun v27 ev27 => ?_)
      have rv27 := xc_rng v27
      refine xi_iadd (pc' := 10) (v := v27) kc_17_9 rfl ev27 ?_
      refine xcps4 (xj_set (v := v27) hy25 ry25 2 (by first | omega | decide) (by first | omega | decide)) (fun y28 s28 hy28 ry28 => ?_)
      refine xi_iastore (pc' := 11) (x' := y28) kc_17_10 rfl A25 rfl (xi_in (by decide) (by rw [hy25]; decide)) s28 (fun hh28 eh28 => ?_)
      have K29 := xk_pa K17 (xk_wa rfl) xD_140 hy28 ry28 eh28
      refine xi_ldc (pc' := 13) (v := 1000000000) kc_17_11 rfl rfl ?_
      refine xi_iload_n (pc' := 14) (x := (-2)) kc_17_13 rfl rfl ?_
      refine xi_isub (pc' := 15) (v := 1000000002) kc_17_14 rfl rfl ?_
      refine xi_ireturn kc_17_15 mr_17 rfl ?_
      show xw J ov (d + 2) 18 (20, [(0, .ref 115), (1, .int x1), (2, .int x2)], [.int 1000000002], hh28) _
      refine xi_ireturn kc_18_20 mr_18 rfl ?_
      have zc1000000002 : (1000000002 : Int32).toInt = 1000000002 := by decide
      exact kk 1000000002 hh28 K29
    · refine xi_cmf (pc' := 10) kc_11_7 rfl (xc_gt_f (X := x2.toInt) (Y := 1) rfl (by decide) (by omega)) ?_
      refine xi_iconst (pc' := 11) (v := 1) kc_11_10 rfl rfl ?_
      refine xi_goto (pc' := 15) kc_11_11 rfl ?_
      refine xi_ireturn kc_11_15 mr_11 rfl ?_
      show xw J ov (d + 2) 18 (11, [(0, .ref 115), (1, .int x1), (2, .int x2)], [.int 1], hh16) _
      refine xi_ift (pc' := 21) kc_18_11 rfl rfl ?_
      refine xi_iload_n (pc' := 22) (x := x1) kc_18_21 rfl rfl ?_
      by_cases c30 : 0 ≤ x1.toInt
      · refine xi_ift (pc' := 32) kc_18_22 rfl (xc_ge_t (X := x1.toInt) (Y := 0) rfl (by decide) (by omega)) ?_
        refine xi_iload_n (pc' := 33) (x := x1) kc_18_32 rfl rfl ?_
        refine xi_sipush (pc' := 36) (v := 599) kc_18_33 rfl rfl ?_
        by_cases c31 : x1.toInt ≤ 599
        · refine xi_cmt (pc' := 46) kc_18_36 rfl (xc_le_t (X := x1.toInt) (Y := 599) rfl (by decide) (by omega)) ?_
          refine xi_iload_n (pc' := 47) (x := x2) kc_18_46 rfl rfl ?_
          by_cases c32 : x2.toInt = 0
          · refine xi_iff (pc' := 50) kc_18_47 rfl (xc_ne_f (X := x2.toInt) (Y := 0) rfl (by decide) (by omega)) ?_
            refine xi_aload_n (pc' := 51) (x := 115) kc_18_50 rfl rfl ?_
            refine xi_iload_n (pc' := 52) (x := x1) kc_18_51 rfl rfl ?_
            refine xi_virtual (mj := 19) (as := [.int x1]) (st1 := []) (lv0 := [(0, .ref 115), (1, .int x1)]) kc_18_52 rfl rfl rfl rfl rfl eh15.1 (Nat.le_of_ble_eq_true rfl) (hJ _ _ _ _ (by decide)) (xm_le ml_19 rfl) rfl ?_
            refine mt_19_0 hJ hov1 hov2 (d := d) (x1 := x1) K17.1 (by first | omega | decide) (fun r33 hh34 K35 => ?_)
            have br33 := xc_rng r33
            have K36 := xk_tr K17 K35 rfl
            refine xp_115 K36.1 (fun u37 u38 u39 u40 u41 u42 u43 u44 u45 u46 u47 u48 u49 bu37 bu38 bu39 bu40 bu41 bu42 bu43 bu44 bu45 bu46 bu47 bu48 bu49 A50 => ?_)
            have e51 : u2 = u38 := xk_eqi (q := 1) K35 rfl eh15.1 A50 rfl rfl
            subst e51
            have e52 : u5 = u41 := xk_eqi (q := 23) K35 rfl eh15.1 A50 rfl rfl
            subst e52
            show xw J ov (d + 2) 18 (55, [(0, .ref 115), (1, .int x1), (2, .int x2)], [.int r33], hh34) _
            refine xi_goto (pc' := 63) kc_18_55 rfl ?_
            refine xi_ireturn kc_18_63 mr_18 rfl ?_
            exact kk r33 hh34 K36
          · refine xi_ift (pc' := 58) kc_18_47 rfl (xc_ne_t (X := x2.toInt) (Y := 0) rfl (by decide) (by omega)) ?_
            refine xi_aload_n (pc' := 59) (x := 115) kc_18_58 rfl rfl ?_
            refine xi_iload_n (pc' := 60) (x := x1) kc_18_59 rfl rfl ?_
            refine xi_virtual (mj := 20) (as := [.int x1]) (st1 := []) (lv0 := [(0, .ref 115), (1, .int x1)]) kc_18_60 rfl rfl rfl rfl rfl eh15.1 (Nat.le_of_ble_eq_true rfl) (hJ _ _ _ _ (by decide)) (xm_le ml_20 rfl) rfl ?_
            refine mt_20_0 hJ hov1 hov2 (d := d) (x1 := x1) K17.1 (by first | omega | decide) (fun r53 hh54 K55 => ?_)
            have br53 := xc_rng r53
            have K56 := xk_tr K17 K55 rfl
            refine xp_115 K56.1 (fun u57 u58 u59 u60 u61 u62 u63 u64 u65 u66 u67 u68 u69 bu57 bu58 bu59 bu60 bu61 bu62 bu63 bu64 bu65 bu66 bu67 bu68 bu69 A70 => ?_)
            have e71 : u2 = u58 := xk_eqi (q := 1) K55 rfl eh15.1 A70 rfl rfl
            subst e71
            have e72 : u5 = u61 := xk_eqi (q := 23) K55 rfl eh15.1 A70 rfl rfl
            subst e72
            show xw J ov (d + 2) 18 (63, [(0, .ref 115), (1, .int x1), (2, .int x2)], [.int r53], hh54) _
            refine xi_ireturn kc_18_63 mr_18 rfl ?_
            exact kk r53 hh54 K56
        · refine xi_cmf (pc' := 39) kc_18_36 rfl (xc_le_f (X := x1.toInt) (Y := 599) rfl (by decide) (by omega)) ?_
          refine xi_aload_n (pc' := 40) (x := 115) kc_18_39 rfl rfl ?_
          refine xi_bipush (pc' := 42) (v := (-6)) kc_18_40 rfl rfl ?_
          refine xi_virtual (mj := 17) (as := [.int (-6)]) (st1 := []) (lv0 := [(0, .ref 115), (1, .int (-6))]) kc_18_42 rfl rfl rfl rfl rfl eh15.1 (Nat.le_of_ble_eq_true rfl) (hJ _ _ _ _ (by decide)) (xm_le ml_17 rfl) rfl ?_
          refine xi_aload_n (pc' := 1) (x := 115) kc_17_0 rfl rfl ?_
          refine xi_getfield (pc' := 4) (v := .ref 140) kc_17_1 rfl rfl rfl eh15.1 rfl ?_
          refine xi_iload_n (pc' := 5) (x := (-6)) kc_17_4 rfl rfl ?_
          refine xi_ineg (pc' := 6) (v := 6) kc_17_5 rfl rfl ?_
          refine xi_dup2 (pc' := 7) kc_17_6 rfl ⟨rfl, rfl⟩ ?_
          refine xcps4 (xk_arr K17.1 xD_140) (fun y73 A73 hy73 ry73 => ?_)
          refine xcps4 (xj_get hy73 ry73 (i := 6) (by decide) (by decide)) (fun v74 ev74 bv74 dv74 => ?_)
          refine xi_iaload (pc' := 8) (v := v74) kc_17_7 rfl A73 (by decide) rfl (xi_in (by decide) (by rw [hy73]; decide)) ev74 ?_
          refine xi_iconst (pc' := 9) (v := 1) kc_17_8 rfl rfl ?_
          refine xcps2 (α := Int32) ((v74 : Int32) + 1) (fun v75 ev75 => ?_)
          have rv75 := xc_rng v75
          refine xi_iadd (pc' := 10) (v := v75) kc_17_9 rfl ev75 ?_
          refine xcps4 (xj_set (v := v75) hy73 ry73 6 (by first | omega | decide) (by first | omega | decide)) (fun y76 s76 hy76 ry76 => ?_)
          refine xi_iastore (pc' := 11) (x' := y76) kc_17_10 rfl A73 rfl (xi_in (by decide) (by rw [hy73]; decide)) s76 (fun hh76 eh76 => ?_)
          have K77 := xk_pa K17 (xk_wa rfl) xD_140 hy76 ry76 eh76
          refine xi_ldc (pc' := 13) (v := 1000000000) kc_17_11 rfl rfl ?_
          refine xi_iload_n (pc' := 14) (x := (-6)) kc_17_13 rfl rfl ?_
          refine xi_isub (pc' := 15) (v := 1000000006) kc_17_14 rfl rfl ?_
          refine xi_ireturn kc_17_15 mr_17 rfl ?_
          show xw J ov (d + 2) 18 (45, [(0, .ref 115), (1, .int x1), (2, .int x2)], [.int 1000000006], hh76) _
          refine xi_ireturn kc_18_45 mr_18 rfl ?_
          have zc1000000006 : (1000000006 : Int32).toInt = 1000000006 := by decide
          exact kk 1000000006 hh76 K77
      · refine xi_iff (pc' := 25) kc_18_22 rfl (xc_ge_f (X := x1.toInt) (Y := 0) rfl (by decide) (by omega)) ?_
        refine xi_aload_n (pc' := 26) (x := 115) kc_18_25 rfl rfl ?_
        refine xi_bipush (pc' := 28) (v := (-4)) kc_18_26 rfl rfl ?_
        refine xi_virtual (mj := 17) (as := [.int (-4)]) (st1 := []) (lv0 := [(0, .ref 115), (1, .int (-4))]) kc_18_28 rfl rfl rfl rfl rfl eh15.1 (Nat.le_of_ble_eq_true rfl) (hJ _ _ _ _ (by decide)) (xm_le ml_17 rfl) rfl ?_
        refine xi_aload_n (pc' := 1) (x := 115) kc_17_0 rfl rfl ?_
        refine xi_getfield (pc' := 4) (v := .ref 140) kc_17_1 rfl rfl rfl eh15.1 rfl ?_
        refine xi_iload_n (pc' := 5) (x := (-4)) kc_17_4 rfl rfl ?_
        refine xi_ineg (pc' := 6) (v := 4) kc_17_5 rfl rfl ?_
        refine xi_dup2 (pc' := 7) kc_17_6 rfl ⟨rfl, rfl⟩ ?_
        refine xcps4 (xk_arr K17.1 xD_140) (fun y78 A78 hy78 ry78 => ?_)
        refine xcps4 (xj_get hy78 ry78 (i := 4) (by decide) (by decide)) (fun v79 ev79 bv79 dv79 => ?_)
        refine xi_iaload (pc' := 8) (v := v79) kc_17_7 rfl A78 (by decide) rfl (xi_in (by decide) (by rw [hy78]; decide)) ev79 ?_
        refine xi_iconst (pc' := 9) (v := 1) kc_17_8 rfl rfl ?_
        refine xcps2 (α := Int32) ((v79 : Int32) + 1) (fun v80 ev80 => ?_)
        have rv80 := xc_rng v80
        refine xi_iadd (pc' := 10) (v := v80) kc_17_9 rfl ev80 ?_
        refine xcps4 (xj_set (v := v80) hy78 ry78 4 (by first | omega | decide) (by first | omega | decide)) (fun y81 s81 hy81 ry81 => ?_)
        refine xi_iastore (pc' := 11) (x' := y81) kc_17_10 rfl A78 rfl (xi_in (by decide) (by rw [hy78]; decide)) s81 (fun hh81 eh81 => ?_)
        have K82 := xk_pa K17 (xk_wa rfl) xD_140 hy81 ry81 eh81
        refine xi_ldc (pc' := 13) (v := 1000000000) kc_17_11 rfl rfl ?_
        refine xi_iload_n (pc' := 14) (x := (-4)) kc_17_13 rfl rfl ?_
        refine xi_isub (pc' := 15) (v := 1000000004) kc_17_14 rfl rfl ?_
        refine xi_ireturn kc_17_15 mr_17 rfl ?_
        show xw J ov (d + 2) 18 (31, [(0, .ref 115), (1, .int x1), (2, .int x2)], [.int 1000000004], hh81) _
        refine xi_ireturn kc_18_31 mr_18 rfl ?_
        have zc1000000004 : (1000000004 : Int32).toInt = 1000000004 := by decide
        exact kk 1000000004 hh81 K82
set_option maxHeartbeats 4000000 in
theorem mt_180_0 {J : xe_J} {ov : List (List Int32)} (hJ : ∀ d mj as h, mj ≠ xe_loff → J d mj as h = none) (hov1 : ov[1]? = some [10, 0, 0, 0, 0, 0]) (hov2 : ov[2]? = some [99, 30, 50, 50, 1, 99999]) {d : Nat} {Q : Option Value → xe_H → Prop} {h : xe_H} {x1 : Int32} {x2 : Int32} {x3 : Int32} (T : xt h) (b1 : (0 ≤ x1.toInt ∧ x1.toInt ≤ 1)) (b3 : (0 ≤ x3.toInt ∧ x3.toInt ≤ 1)) (kk : (∀ (r : Int32) (h' : xe_H), ((-2) ≤ r.toInt ∧ r.toInt ≤ 1) → xk [(0, 9), (115, 1), (83, 0), (29, 0), (31, 0), (33, 0), (35, 0), (37, 0), (39, 0), (41, 0), (43, 0), (45, 0), (47, 0), (49, 0), (51, 0), (125, 0), (29, 2), (31, 2), (33, 2), (35, 2), (37, 2), (39, 2), (41, 2), (43, 2), (45, 2), (47, 2), (49, 2), (51, 2), (127, 0), (1, 5), (115, 23)] h h' → Q (some (.int r)) h')) : xw J ov (d + 2) 180 (0, [(0, .ref 0), (1, .int x1), (2, .int x2), (3, .int x3)], [], h) Q := by
  have K : xk [(0, 9), (115, 1), (83, 0), (29, 0), (31, 0), (33, 0), (35, 0), (37, 0), (39, 0), (41, 0), (43, 0), (45, 0), (47, 0), (49, 0), (51, 0), (125, 0), (29, 2), (31, 2), (33, 2), (35, 2), (37, 2), (39, 2), (41, 2), (43, 2), (45, 2), (47, 2), (49, 2), (51, 2), (127, 0), (1, 5), (115, 23)] h h := xk_re T
  have rx2 := xc_rng x2
  refine xi_iload_n (pc' := 1) (x := x2) kc_180_0 rfl rfl ?_
  refine xi_static (mj := 117) (as := [.int x2]) (st1 := []) (lv0 := [(0, .int x2)]) kc_180_1 rfl rfl (Nat.le_of_ble_eq_true rfl) rfl rfl (Nat.le_of_ble_eq_true rfl) (hJ _ _ _ _ (by decide)) (xm_le ml_117 rfl) rfl ?_
  refine xi_iload_n (pc' := 1) (x := x2) kc_117_0 rfl rfl ?_
  by_cases c1 : x2.toInt < 0
  · refine xi_ift (pc' := 13) kc_117_1 rfl (xc_lt_t (X := x2.toInt) (Y := 0) rfl (by decide) (by omega)) ?_
    refine xi_iconst (pc' := 14) (v := 0) kc_117_13 rfl rfl ?_
    refine xi_ireturn kc_117_14 mr_117 rfl ?_
    show xw J ov (d + 2) 180 (4, [(0, .ref 0), (1, .int x1), (2, .int x2), (3, .int x3)], [.int 0], h) _
    refine xi_iff (pc' := 7) kc_180_4 rfl rfl ?_
    refine xi_aload_n (pc' := 8) (x := 0) kc_180_7 rfl rfl ?_
    refine xi_bipush (pc' := 10) (v := (-2)) kc_180_8 rfl rfl ?_
    refine xp_0 K.1 (fun u2 u3 bu2 bu3 A4 => ?_)
    refine xi_virtual (mj := 90) (as := [.int (-2)]) (st1 := []) (lv0 := [(0, .ref 0), (1, .int (-2))]) kc_180_10 rfl rfl rfl rfl rfl A4 (Nat.le_of_ble_eq_true rfl) (hJ _ _ _ _ (by decide)) (xm_le ml_90 rfl) rfl ?_
    refine xi_iload_n (pc' := 1) (x := (-2)) kc_90_0 rfl rfl ?_
    refine xi_ineg (pc' := 2) (v := 2) kc_90_1 rfl rfl ?_
    refine xi_istore_n (pc' := 3) (lv' := [(2, .int 2), (0, .ref 0), (1, .int (-2))]) kc_90_2 rfl rfl (xm_lt ml_90 rfl) ?_
    refine xi_iload_n (pc' := 4) (x := 2) kc_90_3 rfl rfl ?_
    refine xi_iff (pc' := 7) kc_90_4 rfl rfl ?_
    refine xi_iload_n (pc' := 8) (x := 2) kc_90_7 rfl rfl ?_
    refine xi_aload_n (pc' := 9) (x := 0) kc_90_8 rfl rfl ?_
    refine xi_getfield (pc' := 12) (v := .ref 94) kc_90_9 rfl rfl rfl A4 rfl ?_
    refine xcps4 (xk_arr K.1 xD_94) (fun y5 A5 hy5 ry5 => ?_)
    refine xi_arraylength (pc' := 13) (n := 7) (v := 7) kc_90_12 rfl (xl_lenI (by decide) (by decide) A5 hy5) rfl ?_
    refine xi_cmf (pc' := 16) kc_90_13 rfl rfl ?_
    refine xi_aload_n (pc' := 17) (x := 0) kc_90_16 rfl rfl ?_
    refine xi_getfield (pc' := 20) (v := .ref 94) kc_90_17 rfl rfl rfl A4 rfl ?_
    refine xi_iload_n (pc' := 21) (x := 2) kc_90_20 rfl rfl ?_
    refine xi_dup2 (pc' := 22) kc_90_21 rfl ⟨rfl, rfl⟩ ?_
    refine xcps4 (xj_get hy5 ry5 (i := 2) (by decide) (by decide)) (fun v6 ev6 bv6 dv6 => ?_)
    refine xi_iaload (pc' := 23) (v := v6) kc_90_22 rfl A5 (by decide) rfl (xi_in (by decide) (by rw [hy5]; decide)) ev6 ?_
    refine xi_iconst (pc' := 24) (v := 1) kc_90_23 rfl rfl ?_
    refine xcps2 (α := Int32) ((v6 : Int32) + 1) (fun v7 ev7 => ?_)
    have rv7 := xc_rng v7
    refine xi_iadd (pc' := 25) (v := v7) kc_90_24 rfl ev7 ?_
    refine xcps4 (xj_set (v := v7) hy5 ry5 2 (by first | omega | decide) (by first | omega | decide)) (fun y8 s8 hy8 ry8 => ?_)
    refine xi_iastore (pc' := 26) (x' := y8) kc_90_25 rfl A5 rfl (xi_in (by decide) (by rw [hy5]; decide)) s8 (fun hh8 eh8 => ?_)
    have K9 := xk_pa K (xk_wa rfl) xD_94 hy8 ry8 eh8
    refine xi_iload_n (pc' := 27) (x := (-2)) kc_90_26 rfl rfl ?_
    refine xi_ireturn kc_90_27 mr_90 rfl ?_
    show xw J ov (d + 2) 180 (13, [(0, .ref 0), (1, .int x1), (2, .int x2), (3, .int x3)], [.int (-2)], hh8) _
    refine xi_ireturn kc_180_13 mr_180 rfl ?_
    have zcm2 : ((-2) : Int32).toInt = (-2) := by decide
    exact kk (-2) hh8 (by omega) K9
  · refine xi_iff (pc' := 4) kc_117_1 rfl (xc_lt_f (X := x2.toInt) (Y := 0) rfl (by decide) (by omega)) ?_
    refine xi_iload_n (pc' := 5) (x := x2) kc_117_4 rfl rfl ?_
    refine xi_iconst (pc' := 6) (v := 4) kc_117_5 rfl rfl ?_
    by_cases c10 : 4 ≤ x2.toInt
    · refine xi_cmt (pc' := 13) kc_117_6 rfl (xc_ge_t (X := x2.toInt) (Y := 4) rfl (by decide) (by omega)) ?_
      refine xi_iconst (pc' := 14) (v := 0) kc_117_13 rfl rfl ?_
      refine xi_ireturn kc_117_14 mr_117 rfl ?_
      show xw J ov (d + 2) 180 (4, [(0, .ref 0), (1, .int x1), (2, .int x2), (3, .int x3)], [.int 0], h) _
      refine xi_iff (pc' := 7) kc_180_4 rfl rfl ?_
      refine xi_aload_n (pc' := 8) (x := 0) kc_180_7 rfl rfl ?_
      refine xi_bipush (pc' := 10) (v := (-2)) kc_180_8 rfl rfl ?_
      refine xp_0 K.1 (fun u11 u12 bu11 bu12 A13 => ?_)
      refine xi_virtual (mj := 90) (as := [.int (-2)]) (st1 := []) (lv0 := [(0, .ref 0), (1, .int (-2))]) kc_180_10 rfl rfl rfl rfl rfl A13 (Nat.le_of_ble_eq_true rfl) (hJ _ _ _ _ (by decide)) (xm_le ml_90 rfl) rfl ?_
      refine xi_iload_n (pc' := 1) (x := (-2)) kc_90_0 rfl rfl ?_
      refine xi_ineg (pc' := 2) (v := 2) kc_90_1 rfl rfl ?_
      refine xi_istore_n (pc' := 3) (lv' := [(2, .int 2), (0, .ref 0), (1, .int (-2))]) kc_90_2 rfl rfl (xm_lt ml_90 rfl) ?_
      refine xi_iload_n (pc' := 4) (x := 2) kc_90_3 rfl rfl ?_
      refine xi_iff (pc' := 7) kc_90_4 rfl rfl ?_
      refine xi_iload_n (pc' := 8) (x := 2) kc_90_7 rfl rfl ?_
      refine xi_aload_n (pc' := 9) (x := 0) kc_90_8 rfl rfl ?_
      refine xi_getfield (pc' := 12) (v := .ref 94) kc_90_9 rfl rfl rfl A13 rfl ?_
      refine xcps4 (xk_arr K.1 xD_94) (fun y14 A14 hy14 ry14 => ?_)
      refine xi_arraylength (pc' := 13) (n := 7) (v := 7) kc_90_12 rfl (xl_lenI (by decide) (by decide) A14 hy14) rfl ?_
      refine xi_cmf (pc' := 16) kc_90_13 rfl rfl ?_
      refine xi_aload_n (pc' := 17) (x := 0) kc_90_16 rfl rfl ?_
      refine xi_getfield (pc' := 20) (v := .ref 94) kc_90_17 rfl rfl rfl A13 rfl ?_
      refine xi_iload_n (pc' := 21) (x := 2) kc_90_20 rfl rfl ?_
      refine xi_dup2 (pc' := 22) kc_90_21 rfl ⟨rfl, rfl⟩ ?_
      refine xcps4 (xj_get hy14 ry14 (i := 2) (by decide) (by decide)) (fun v15 ev15 bv15 dv15 => ?_)
      refine xi_iaload (pc' := 23) (v := v15) kc_90_22 rfl A14 (by decide) rfl (xi_in (by decide) (by rw [hy14]; decide)) ev15 ?_
      refine xi_iconst (pc' := 24) (v := 1) kc_90_23 rfl rfl ?_
      refine xcps2 (α := Int32) ((v15 : Int32) + 1) (fun v16 ev16 => ?_)
      have rv16 := xc_rng v16
      refine xi_iadd (pc' := 25) (v := v16) kc_90_24 rfl ev16 ?_
      refine xcps4 (xj_set (v := v16) hy14 ry14 2 (by first | omega | decide) (by first | omega | decide)) (fun y17 s17 hy17 ry17 => ?_)
      refine xi_iastore (pc' := 26) (x' := y17) kc_90_25 rfl A14 rfl (xi_in (by decide) (by rw [hy14]; decide)) s17 (fun hh17 eh17 => ?_)
      have K18 := xk_pa K (xk_wa rfl) xD_94 hy17 ry17 eh17
      refine xi_iload_n (pc' := 27) (x := (-2)) kc_90_26 rfl rfl ?_
      refine xi_ireturn kc_90_27 mr_90 rfl ?_
      show xw J ov (d + 2) 180 (13, [(0, .ref 0), (1, .int x1), (2, .int x2), (3, .int x3)], [.int (-2)], hh17) _
      refine xi_ireturn kc_180_13 mr_180 rfl ?_
      have zcm2 : ((-2) : Int32).toInt = (-2) := by decide
      exact kk (-2) hh17 (by omega) K18
    · refine xi_cmf (pc' := 9) kc_117_6 rfl (xc_ge_f (X := x2.toInt) (Y := 4) rfl (by decide) (by omega)) ?_
      refine xi_iconst (pc' := 10) (v := 1) kc_117_9 rfl rfl ?_
      refine xi_goto (pc' := 14) kc_117_10 rfl ?_
      refine xi_ireturn kc_117_14 mr_117 rfl ?_
      show xw J ov (d + 2) 180 (4, [(0, .ref 0), (1, .int x1), (2, .int x2), (3, .int x3)], [.int 1], h) _
      refine xi_ift (pc' := 14) kc_180_4 rfl rfl ?_
      refine xi_aload_n (pc' := 15) (x := 0) kc_180_14 rfl rfl ?_
      refine xp_0 K.1 (fun u19 u20 bu19 bu20 A21 => ?_)
      refine xi_getfield (pc' := 18) (v := .ref 85) kc_180_15 rfl rfl rfl A21 rfl ?_
      refine xi_iload_n (pc' := 19) (x := x1) kc_180_18 rfl rfl ?_
      refine xi_iload_n (pc' := 20) (x := x2) kc_180_19 rfl rfl ?_
      refine xi_iload_n (pc' := 21) (x := x3) kc_180_20 rfl rfl ?_
      refine xi_aload_n (pc' := 22) (x := 0) kc_180_21 rfl rfl ?_
      refine xi_getfield (pc' := 25) (v := .int u20) kc_180_22 rfl rfl rfl A21 rfl ?_
      refine xp_85 K.1 (fun u22 u23 bu22 bu23 A24 => ?_)
      refine xi_virtual (mj := 181) (as := [.int x1, .int x2, .int x3, .int u20]) (st1 := []) (lv0 := [(0, .ref 85), (1, .int x1), (2, .int x2), (3, .int x3), (4, .int u20)]) kc_180_25 rfl rfl rfl rfl rfl A24 (Nat.le_of_ble_eq_true rfl) (hJ _ _ _ _ (by decide)) (xm_le ml_181 rfl) rfl ?_
      refine xi_iload_n (pc' := 1) (x := x2) kc_181_0 rfl rfl ?_
      refine xi_static (mj := 117) (as := [.int x2]) (st1 := []) (lv0 := [(0, .int x2)]) kc_181_1 rfl rfl (Nat.le_of_ble_eq_true rfl) rfl rfl (Nat.le_of_ble_eq_true rfl) (hJ _ _ _ _ (by decide)) (xm_le ml_117 rfl) rfl ?_
      refine xi_iload_n (pc' := 1) (x := x2) kc_117_0 rfl rfl ?_
      refine xi_iff (pc' := 4) kc_117_1 rfl (xc_lt_f (X := x2.toInt) (Y := 0) rfl (by decide) (by omega)) ?_
      refine xi_iload_n (pc' := 5) (x := x2) kc_117_4 rfl rfl ?_
      refine xi_iconst (pc' := 6) (v := 4) kc_117_5 rfl rfl ?_
      refine xi_cmf (pc' := 9) kc_117_6 rfl (xc_ge_f (X := x2.toInt) (Y := 4) rfl (by decide) (by omega)) ?_
      refine xi_iconst (pc' := 10) (v := 1) kc_117_9 rfl rfl ?_
      refine xi_goto (pc' := 14) kc_117_10 rfl ?_
      refine xi_ireturn kc_117_14 mr_117 rfl ?_
      show xw J ov (d + 1) 181 (4, [(0, .ref 85), (1, .int x1), (2, .int x2), (3, .int x3), (4, .int u20)], [.int 1], h) _
      refine xi_ift (pc' := 8) kc_181_4 rfl rfl ?_
      refine xi_iload_n (pc' := 9) (x := x1) kc_181_8 rfl rfl ?_
      by_cases c25 : x1.toInt = 0
      · refine xi_ift (pc' := 19) kc_181_9 rfl (xc_eq_t (X := x1.toInt) (Y := 0) rfl (by decide) (by omega)) ?_
        refine xi_aload_n (pc' := 20) (x := 85) kc_181_19 rfl rfl ?_
        refine xi_getfield (pc' := 23) (v := .ref 90) kc_181_20 rfl rfl rfl A24 rfl ?_
        refine xi_astore (pc' := 25) (lv' := [(5, .ref 90), (0, .ref 85), (1, .int x1), (2, .int x2), (3, .int x3), (4, .int u20)]) kc_181_23 rfl rfl (xm_lt ml_181 rfl) ?_
        refine xi_aload (pc' := 27) (x := 90) kc_181_25 rfl rfl ?_
        refine xi_iload_n (pc' := 28) (x := x2) kc_181_27 rfl rfl ?_
        refine xi_iload_n (pc' := 29) (x := x3) kc_181_28 rfl rfl ?_
        by_cases c26 : x3.toInt = 0
        · refine xi_ift (pc' := 36) kc_181_29 rfl (xc_eq_t (X := x3.toInt) (Y := 0) rfl (by decide) (by omega)) ?_
          refine xi_iconst (pc' := 37) (v := 2) kc_181_36 rfl rfl ?_
          refine xcps4 (xk_arr K.1 xD_90) (fun y27 A27 hy27 ry27 => ?_)
          refine xcps4 (xj_set (v := 2) hy27 ry27 x2 (by first | omega | decide) (by first | omega | decide)) (fun y28 s28 hy28 ry28 => ?_)
          refine xi_iastore (pc' := 38) (x' := y28) kc_181_37 rfl A27 rfl (xi_in (by omega) (by rw [hy27]; omega)) s28 (fun hh28 eh28 => ?_)
          have K29 := xk_pa K (xk_wa rfl) xD_90 hy28 ry28 eh28
          refine xi_iload_n (pc' := 39) (x := x3) kc_181_38 rfl rfl ?_
          refine xi_ift (pc' := 50) kc_181_39 rfl (xc_eq_t (X := x3.toInt) (Y := 0) rfl (by decide) (by omega)) ?_
          refine xi_return kc_181_50 mr_181 ?_
          show xw J ov (d + 2) 180 (28, [(0, .ref 0), (1, .int x1), (2, .int x2), (3, .int x3)], [], hh28) _
          refine xi_iconst (pc' := 29) (v := 1) kc_180_28 rfl rfl ?_
          refine xi_ireturn kc_180_29 mr_180 rfl ?_
          have zc1 : (1 : Int32).toInt = 1 := by decide
          exact kk 1 hh28 (by omega) K29
        · refine xi_iff (pc' := 32) kc_181_29 rfl (xc_eq_f (X := x3.toInt) (Y := 0) rfl (by decide) (by omega)) ?_
          refine xi_iconst (pc' := 33) (v := 1) kc_181_32 rfl rfl ?_
          refine xi_goto (pc' := 37) kc_181_33 rfl ?_
          refine xcps4 (xk_arr K.1 xD_90) (fun y30 A30 hy30 ry30 => ?_)
          refine xcps4 (xj_set (v := 1) hy30 ry30 x2 (by first | omega | decide) (by first | omega | decide)) (fun y31 s31 hy31 ry31 => ?_)
          refine xi_iastore (pc' := 38) (x' := y31) kc_181_37 rfl A30 rfl (xi_in (by omega) (by rw [hy30]; omega)) s31 (fun hh31 eh31 => ?_)
          have K32 := xk_pa K (xk_wa rfl) xD_90 hy31 ry31 eh31
          refine xi_iload_n (pc' := 39) (x := x3) kc_181_38 rfl rfl ?_
          refine xi_iff (pc' := 42) kc_181_39 rfl (xc_eq_f (X := x3.toInt) (Y := 0) rfl (by decide) (by omega)) ?_
          refine xi_aload_n (pc' := 43) (x := 85) kc_181_42 rfl rfl ?_
          have A33 := ((eh31.2.1 85 (by decide)).trans A24)
          refine xi_getfield (pc' := 46) (v := .ref 92) kc_181_43 rfl rfl rfl A33 rfl ?_
          refine xi_iload_n (pc' := 47) (x := x2) kc_181_46 rfl rfl ?_
          refine xi_iload (pc' := 49) (x := u20) kc_181_47 rfl rfl ?_
          refine xcps4 (xk_arr K32.1 xD_92) (fun y34 A34 hy34 ry34 => ?_)
          refine xcps4 (xj_set (v := u20) hy34 ry34 x2 (by first | omega | decide) (by first | omega | decide)) (fun y35 s35 hy35 ry35 => ?_)
          refine xi_iastore (pc' := 50) (x' := y35) kc_181_49 rfl A34 rfl (xi_in (by omega) (by rw [hy34]; omega)) s35 (fun hh35 eh35 => ?_)
          have K36 := xk_pa K32 (xk_wa rfl) xD_92 hy35 ry35 eh35
          refine xi_return kc_181_50 mr_181 ?_
          show xw J ov (d + 2) 180 (28, [(0, .ref 0), (1, .int x1), (2, .int x2), (3, .int x3)], [], hh35) _
          refine xi_iconst (pc' := 29) (v := 1) kc_180_28 rfl rfl ?_
          refine xi_ireturn kc_180_29 mr_180 rfl ?_
          have zc1 : (1 : Int32).toInt = 1 := by decide
          exact kk 1 hh35 (by omega) K36
      · refine xi_iff (pc' := 12) kc_181_9 rfl (xc_eq_f (X := x1.toInt) (Y := 0) rfl (by decide) (by omega)) ?_
        refine xi_aload_n (pc' := 13) (x := 85) kc_181_12 rfl rfl ?_
        refine xi_getfield (pc' := 16) (v := .ref 91) kc_181_13 rfl rfl rfl A24 rfl ?_
        refine xi_goto (pc' := 23) kc_181_16 rfl ?_
        refine xi_astore (pc' := 25) (lv' := [(5, .ref 91), (0, .ref 85), (1, .int x1), (2, .int x2), (3, .int x3), (4, .int u20)]) kc_181_23 rfl rfl (xm_lt ml_181 rfl) ?_
        refine xi_aload (pc' := 27) (x := 91) kc_181_25 rfl rfl ?_
        refine xi_iload_n (pc' := 28) (x := x2) kc_181_27 rfl rfl ?_
        refine xi_iload_n (pc' := 29) (x := x3) kc_181_28 rfl rfl ?_
        by_cases c37 : x3.toInt = 0
        · refine xi_ift (pc' := 36) kc_181_29 rfl (xc_eq_t (X := x3.toInt) (Y := 0) rfl (by decide) (by omega)) ?_
          refine xi_iconst (pc' := 37) (v := 2) kc_181_36 rfl rfl ?_
          refine xcps4 (xk_arr K.1 xD_91) (fun y38 A38 hy38 ry38 => ?_)
          refine xcps4 (xj_set (v := 2) hy38 ry38 x2 (by first | omega | decide) (by first | omega | decide)) (fun y39 s39 hy39 ry39 => ?_)
          refine xi_iastore (pc' := 38) (x' := y39) kc_181_37 rfl A38 rfl (xi_in (by omega) (by rw [hy38]; omega)) s39 (fun hh39 eh39 => ?_)
          have K40 := xk_pa K (xk_wa rfl) xD_91 hy39 ry39 eh39
          refine xi_iload_n (pc' := 39) (x := x3) kc_181_38 rfl rfl ?_
          refine xi_ift (pc' := 50) kc_181_39 rfl (xc_eq_t (X := x3.toInt) (Y := 0) rfl (by decide) (by omega)) ?_
          refine xi_return kc_181_50 mr_181 ?_
          show xw J ov (d + 2) 180 (28, [(0, .ref 0), (1, .int x1), (2, .int x2), (3, .int x3)], [], hh39) _
          refine xi_iconst (pc' := 29) (v := 1) kc_180_28 rfl rfl ?_
          refine xi_ireturn kc_180_29 mr_180 rfl ?_
          have zc1 : (1 : Int32).toInt = 1 := by decide
          exact kk 1 hh39 (by omega) K40
        · refine xi_iff (pc' := 32) kc_181_29 rfl (xc_eq_f (X := x3.toInt) (Y := 0) rfl (by decide) (by omega)) ?_
          refine xi_iconst (pc' := 33) (v := 1) kc_181_32 rfl rfl ?_
          refine xi_goto (pc' := 37) kc_181_33 rfl ?_
          refine xcps4 (xk_arr K.1 xD_91) (fun y41 A41 hy41 ry41 => ?_)
          refine xcps4 (xj_set (v := 1) hy41 ry41 x2 (by first | omega | decide) (by first | omega | decide)) (fun y42 s42 hy42 ry42 => ?_)
          refine xi_iastore (pc' := 38) (x' := y42) kc_181_37 rfl A41 rfl (xi_in (by omega) (by rw [hy41]; omega)) s42 (fun hh42 eh42 => ?_)
          have K43 := xk_pa K (xk_wa rfl) xD_91 hy42 ry42 eh42
          refine xi_iload_n (pc' := 39) (x := x3) kc_181_38 rfl rfl ?_
          refine xi_iff (pc' := 42) kc_181_39 rfl (xc_eq_f (X := x3.toInt) (Y := 0) rfl (by decide) (by omega)) ?_
          refine xi_aload_n (pc' := 43) (x := 85) kc_181_42 rfl rfl ?_
          have A44 := ((eh42.2.1 85 (by decide)).trans A24)
          refine xi_getfield (pc' := 46) (v := .ref 92) kc_181_43 rfl rfl rfl A44 rfl ?_
          refine xi_iload_n (pc' := 47) (x := x2) kc_181_46 rfl rfl ?_
          refine xi_iload (pc' := 49) (x := u20) kc_181_47 rfl rfl ?_
          refine xcps4 (xk_arr K43.1 xD_92) (fun y45 A45 hy45 ry45 => ?_)
          refine xcps4 (xj_set (v := u20) hy45 ry45 x2 (by first | omega | decide) (by first | omega | decide)) (fun y46 s46 hy46 ry46 => ?_)
          refine xi_iastore (pc' := 50) (x' := y46) kc_181_49 rfl A45 rfl (xi_in (by omega) (by rw [hy45]; omega)) s46 (fun hh46 eh46 => ?_)
          have K47 := xk_pa K43 (xk_wa rfl) xD_92 hy46 ry46 eh46
          refine xi_return kc_181_50 mr_181 ?_
          show xw J ov (d + 2) 180 (28, [(0, .ref 0), (1, .int x1), (2, .int x2), (3, .int x3)], [], hh46) _
          refine xi_iconst (pc' := 29) (v := 1) kc_180_28 rfl rfl ?_
          refine xi_ireturn kc_180_29 mr_180 rfl ?_
          have zc1 : (1 : Int32).toInt = 1 := by decide
          exact kk 1 hh46 (by omega) K47
set_option maxHeartbeats 4000000 in
theorem lp_183_0 {J : xe_J} {ov : List (List Int32)} (hJ : ∀ d mj as h, mj ≠ xe_loff → J d mj as h = none) (hov1 : ov[1]? = some [10, 0, 0, 0, 0, 0]) (hov2 : ov[2]? = some [99, 30, 50, 50, 1, 99999]) {d : Nat} {Q : Option Value → xe_H → Prop} {hb : xe_H} (kk : (∀ (r : Int32) (h' : xe_H), (0 ≤ r.toInt ∧ r.toInt ≤ 1) → xk [(0, 9), (115, 1), (83, 0), (29, 0), (31, 0), (33, 0), (35, 0), (37, 0), (39, 0), (41, 0), (43, 0), (45, 0), (47, 0), (49, 0), (51, 0), (125, 0), (29, 2), (31, 2), (33, 2), (35, 2), (37, 2), (39, 2), (41, 2), (43, 2), (45, 2), (47, 2), (49, 2), (51, 2), (127, 0), (1, 5), (115, 23)] hb h' → Q (some (.int r)) h')) : ∀ m : Nat, (∀ (x1 : Int32) (x2 : Int32) (x3 : Int32) (h : xe_H), (0 ≤ x1.toInt ∧ x1.toInt ≤ 63) → (0 ≤ x2.toInt ∧ x2.toInt ≤ 3) → (0 ≤ x3.toInt ∧ x3.toInt ≤ 10) → xk [(0, 9), (115, 1), (83, 0), (29, 0), (31, 0), (33, 0), (35, 0), (37, 0), (39, 0), (41, 0), (43, 0), (45, 0), (47, 0), (49, 0), (51, 0), (125, 0), (29, 2), (31, 2), (33, 2), (35, 2), (37, 2), (39, 2), (41, 2), (43, 2), (45, 2), (47, 2), (49, 2), (51, 2), (127, 0), (1, 5), (115, 23)] hb h → (-1) * x3.toInt + 10 < (m : Int) → xw J ov (d + 1) 183 (2, [(0, .ref 1), (1, .int x1), (2, .int x2), (3, .int x3)], [], h) Q) := by
  intro m
  induction m with
  | zero =>
    intro x1 x2 x3 h b1 b2 b3 K hm; exfalso; omega
  | succ m ih =>
    have i0 := ih
    intro x1 x2 x3 h b1 b2 b3 K hm
    refine xi_iload_n (pc' := 3) (x := x3) kc_183_2 rfl rfl ?_
    refine xi_aload_n (pc' := 4) (x := 1) kc_183_3 rfl rfl ?_
    refine xp_1 K.1 (fun u1 u2 bu1 bu2 A3 => ?_)
    refine xi_getfield (pc' := 7) (v := .int u1) kc_183_4 rfl rfl rfl A3 rfl ?_
    by_cases c4 : u1.toInt ≤ x3.toInt
    · refine xi_cmt (pc' := 45) kc_183_7 rfl (xc_ge_t (X := x3.toInt) (Y := u1.toInt) rfl rfl (by omega)) ?_
      refine xi_iconst (pc' := 46) (v := 0) kc_183_45 rfl rfl ?_
      refine xi_ireturn kc_183_46 mr_183 rfl ?_
      have zc0 : (0 : Int32).toInt = 0 := by decide
      exact kk 0 h (by omega) K
    · refine xi_cmf (pc' := 10) kc_183_7 rfl (xc_ge_f (X := x3.toInt) (Y := u1.toInt) rfl rfl (by omega)) ?_
      refine xi_iload_n (pc' := 11) (x := x3) kc_183_10 rfl rfl ?_
      refine xi_bipush (pc' := 13) (v := 10) kc_183_11 rfl rfl ?_
      refine xi_cmf (pc' := 16) kc_183_13 rfl (xc_ge_f (X := x3.toInt) (Y := 10) rfl (by decide) (by omega)) ?_
      refine xi_iload_n (pc' := 17) (x := x1) kc_183_16 rfl rfl ?_
      refine xi_iload_n (pc' := 18) (x := x3) kc_183_17 rfl rfl ?_
      refine xcps2 (α := Int32) ((x1 : Int32) >>> (x3 &&& 31)) (fun v5 ev5 => ?_)
      have rv5 := xc_rng v5
      refine xi_ishr (pc' := 19) (v := v5) kc_183_18 rfl ev5 ?_
      refine xi_iconst (pc' := 20) (v := 1) kc_183_19 rfl rfl ?_
      refine xcps2 (α := Int32) ((v5 : Int32) &&& 1) (fun v6 ev6 => ?_)
      have rv6 := xc_rng v6
      refine xi_iand (pc' := 21) (v := v6) kc_183_20 rfl ev6 ?_
      by_cases c7 : v6.toInt = 0
      · refine xi_ift (pc' := 39) kc_183_21 rfl (xc_eq_t (X := v6.toInt) (Y := 0) rfl (by decide) (by omega)) ?_
        refine xcps2 (α := Int32) (x3 + 1) (fun v8 ev8 => ?_)
        have zv8 : v8.toInt = (x3.toInt + 1) := by rw [← ev8]; exact (xz_add (X := x3.toInt) (Y := 1) rfl (by decide) (by omega) (by omega)).trans (by omega)
        refine xi_iinc (pc' := 42) (x := x3) (v := v8) (lv' := [(3, .int v8), (0, .ref 1), (1, .int x1), (2, .int x2)]) kc_183_39 rfl rfl ev8 rfl (xm_lt ml_183 rfl) ?_
        refine xi_goto (pc' := 2) kc_183_42 rfl ?_
        refine xw_lv (b := [(0, .ref 1), (1, .int x1), (2, .int x2), (3, .int v8)]) (lvS_cons (lvS_cons (lvS_cons (lvS_cons (lvS_nil (show ([3, 0, 1, 2] : List Nat).Nodup by decide)) rfl) rfl) rfl) rfl) ?_
        exact i0 x1 x2 v8 h (by omega) (by omega) (by omega) K (by omega)
      · refine xi_iff (pc' := 24) kc_183_21 rfl (xc_eq_f (X := v6.toInt) (Y := 0) rfl (by decide) (by omega)) ?_
        refine xi_aload_n (pc' := 25) (x := 1) kc_183_24 rfl rfl ?_
        refine xi_getfield (pc' := 28) (v := .ref 4) kc_183_25 rfl rfl rfl A3 rfl ?_
        refine xi_iload_n (pc' := 29) (x := x3) kc_183_28 rfl rfl ?_
        have A9 := xk_ex K.1 xD_4
        obtain ⟨pt10, ept10, mpt10⟩ := xR_4 (i := x3) (by omega) (by omega)
        refine xj_aaload (pc' := 30) (b := pt10) kc_183_29 rfl A9 rfl (xi_in (n := 10) (by omega) (by omega)) ept10 ?_
        obtain ⟨u11, u12, u13, u14, bu11, bu12, bu13, bu14, A15⟩ := xg_cause K.1 mpt10
        refine xi_getfield (pc' := 33) (v := .int u11) kc_183_30 rfl rfl rfl A15 rfl ?_
        refine xi_iload_n (pc' := 34) (x := x2) kc_183_33 rfl rfl ?_
        by_cases c16 : u11.toInt = x2.toInt
        · refine xi_cmf (pc' := 37) kc_183_34 rfl (xc_ne_f (X := u11.toInt) (Y := x2.toInt) rfl rfl (by omega)) ?_
          refine xi_iconst (pc' := 38) (v := 1) kc_183_37 rfl rfl ?_
          refine xi_ireturn kc_183_38 mr_183 rfl ?_
          have zc1 : (1 : Int32).toInt = 1 := by decide
          exact kk 1 h (by omega) K
        · refine xi_cmt (pc' := 39) kc_183_34 rfl (xc_ne_t (X := u11.toInt) (Y := x2.toInt) rfl rfl (by omega)) ?_
          refine xcps2 (α := Int32) (x3 + 1) (fun v17 ev17 => ?_)
          have zv17 : v17.toInt = (x3.toInt + 1) := by rw [← ev17]; exact (xz_add (X := x3.toInt) (Y := 1) rfl (by decide) (by omega) (by omega)).trans (by omega)
          refine xi_iinc (pc' := 42) (x := x3) (v := v17) (lv' := [(3, .int v17), (0, .ref 1), (1, .int x1), (2, .int x2)]) kc_183_39 rfl rfl ev17 rfl (xm_lt ml_183 rfl) ?_
          refine xi_goto (pc' := 2) kc_183_42 rfl ?_
          refine xw_lv (b := [(0, .ref 1), (1, .int x1), (2, .int x2), (3, .int v17)]) (lvS_cons (lvS_cons (lvS_cons (lvS_cons (lvS_nil (show ([3, 0, 1, 2] : List Nat).Nodup by decide)) rfl) rfl) rfl) rfl) ?_
          exact i0 x1 x2 v17 h (by omega) (by omega) (by omega) K (by omega)
set_option maxHeartbeats 4000000 in
theorem mt_183_0 {J : xe_J} {ov : List (List Int32)} (hJ : ∀ d mj as h, mj ≠ xe_loff → J d mj as h = none) (hov1 : ov[1]? = some [10, 0, 0, 0, 0, 0]) (hov2 : ov[2]? = some [99, 30, 50, 50, 1, 99999]) {d : Nat} {Q : Option Value → xe_H → Prop} {h : xe_H} {x1 : Int32} {x2 : Int32} (T : xt h) (b1 : (0 ≤ x1.toInt ∧ x1.toInt ≤ 63)) (b2 : (0 ≤ x2.toInt ∧ x2.toInt ≤ 3)) (kk : (∀ (r : Int32) (h' : xe_H), (0 ≤ r.toInt ∧ r.toInt ≤ 1) → xk [(0, 9), (115, 1), (83, 0), (29, 0), (31, 0), (33, 0), (35, 0), (37, 0), (39, 0), (41, 0), (43, 0), (45, 0), (47, 0), (49, 0), (51, 0), (125, 0), (29, 2), (31, 2), (33, 2), (35, 2), (37, 2), (39, 2), (41, 2), (43, 2), (45, 2), (47, 2), (49, 2), (51, 2), (127, 0), (1, 5), (115, 23)] h h' → Q (some (.int r)) h')) : xw J ov (d + 1) 183 (0, [(0, .ref 1), (1, .int x1), (2, .int x2)], [], h) Q := by
  have K : xk [(0, 9), (115, 1), (83, 0), (29, 0), (31, 0), (33, 0), (35, 0), (37, 0), (39, 0), (41, 0), (43, 0), (45, 0), (47, 0), (49, 0), (51, 0), (125, 0), (29, 2), (31, 2), (33, 2), (35, 2), (37, 2), (39, 2), (41, 2), (43, 2), (45, 2), (47, 2), (49, 2), (51, 2), (127, 0), (1, 5), (115, 23)] h h := xk_re T
  refine xi_iconst (pc' := 1) (v := 0) kc_183_0 rfl rfl ?_
  refine xi_istore_n (pc' := 2) (lv' := [(3, .int 0), (0, .ref 1), (1, .int x1), (2, .int x2)]) kc_183_1 rfl rfl (xm_lt ml_183 rfl) ?_
  have zc0 : (0 : Int32).toInt = 0 := by decide
  refine xw_lv (b := [(0, .ref 1), (1, .int x1), (2, .int x2), (3, .int 0)]) (lvS_cons (lvS_cons (lvS_cons (lvS_cons (lvS_nil (show ([3, 0, 1, 2] : List Nat).Nodup by decide)) rfl) rfl) rfl) rfl) ?_
  exact (lp_183_0 hJ hov1 hov2 (d := d) (hb := h) (fun r9 h9 b9 K9 => kk r9 h9 b9 (xk_tr K K9 rfl)) 11) x1 x2 0 h (by omega) (by omega) (by omega) (xk_re K.1) (by omega)
set_option maxHeartbeats 4000000 in
theorem lp_185_0 {J : xe_J} {ov : List (List Int32)} (hJ : ∀ d mj as h, mj ≠ xe_loff → J d mj as h = none) (hov1 : ov[1]? = some [10, 0, 0, 0, 0, 0]) (hov2 : ov[2]? = some [99, 30, 50, 50, 1, 99999]) {d : Nat} {Q : Option Value → xe_H → Prop} {hb : xe_H} (kk : (∀ (r : Int32) (h' : xe_H), ((-9) ≤ r.toInt ∧ r.toInt ≤ 11) → xk [(0, 9), (115, 1), (83, 0), (29, 0), (31, 0), (33, 0), (35, 0), (37, 0), (39, 0), (41, 0), (43, 0), (45, 0), (47, 0), (49, 0), (51, 0), (125, 0), (29, 2), (31, 2), (33, 2), (35, 2), (37, 2), (39, 2), (41, 2), (43, 2), (45, 2), (47, 2), (49, 2), (51, 2), (127, 0), (1, 5), (115, 23)] hb h' → Q (some (.int r)) h')) : ∀ m : Nat, (∀ (x1 : Int32) (x2 : Int32) (x3 : Int32) (x4 : Int32) (x5 : Int32) (h : xe_H), (0 ≤ x1.toInt ∧ x1.toInt ≤ 3) → ((-9) ≤ x3.toInt ∧ x3.toInt ≤ 11) → ((-9) ≤ x4.toInt ∧ x4.toInt ≤ 2147483647) → (0 ≤ x5.toInt ∧ x5.toInt ≤ 12) → xk [(0, 9), (115, 1), (83, 0), (29, 0), (31, 0), (33, 0), (35, 0), (37, 0), (39, 0), (41, 0), (43, 0), (45, 0), (47, 0), (49, 0), (51, 0), (125, 0), (29, 2), (31, 2), (33, 2), (35, 2), (37, 2), (39, 2), (41, 2), (43, 2), (45, 2), (47, 2), (49, 2), (51, 2), (127, 0), (1, 5), (115, 23)] hb h → (-1) * x5.toInt + 12 < (m : Int) → xw J ov (d + 1) 185 (10, [(0, .ref 85), (1, .int x1), (2, .int x2), (3, .int x3), (4, .int x4), (5, .int x5)], [], h) Q) := by
  intro m
  induction m with
  | zero =>
    intro x1 x2 x3 x4 x5 h b1 b3 b4 b5 K hm; have rx2 := xc_rng x2; exfalso; omega
  | succ m ih =>
    have i0 := ih
    intro x1 x2 x3 x4 x5 h b1 b3 b4 b5 K hm
    have rx2 := xc_rng x2
    refine xi_iload (pc' := 12) (x := x5) kc_185_10 rfl rfl ?_
    refine xi_aload_n (pc' := 13) (x := 85) kc_185_12 rfl rfl ?_
    refine xp_85 K.1 (fun u1 u2 bu1 bu2 A3 => ?_)
    refine xi_getfield (pc' := 16) (v := .int u2) kc_185_13 rfl rfl rfl A3 rfl ?_
    by_cases c4 : u2.toInt ≤ x5.toInt
    · refine xi_cmt (pc' := 78) kc_185_16 rfl (xc_ge_t (X := x5.toInt) (Y := u2.toInt) rfl rfl (by omega)) ?_
      refine xi_iload_n (pc' := 79) (x := x3) kc_185_78 rfl rfl ?_
      refine xi_ireturn kc_185_79 mr_185 rfl ?_
      exact kk x3 h (by omega) K
    · refine xi_cmf (pc' := 19) kc_185_16 rfl (xc_ge_f (X := x5.toInt) (Y := u2.toInt) rfl rfl (by omega)) ?_
      refine xi_iload (pc' := 21) (x := x5) kc_185_19 rfl rfl ?_
      refine xi_bipush (pc' := 23) (v := 12) kc_185_21 rfl rfl ?_
      refine xi_cmf (pc' := 26) kc_185_23 rfl (xc_ge_f (X := x5.toInt) (Y := 12) rfl (by decide) (by omega)) ?_
      refine xi_aload_n (pc' := 27) (x := 85) kc_185_26 rfl rfl ?_
      refine xi_getfield (pc' := 30) (v := .ref 87) kc_185_27 rfl rfl rfl A3 rfl ?_
      refine xi_iload (pc' := 32) (x := x5) kc_185_30 rfl rfl ?_
      refine xcps4 (xk_arr K.1 xD_87) (fun y5 A5 hy5 ry5 => ?_)
      refine xcps4 (xj_get hy5 ry5 (i := x5) (by omega) (by omega)) (fun v6 ev6 bv6 dv6 => ?_)
      refine xi_iaload (pc' := 33) (v := v6) kc_185_32 rfl A5 (by decide) rfl (xi_in (by omega) (by rw [hy5]; omega)) ev6 ?_
      refine xi_iload_n (pc' := 34) (x := x1) kc_185_33 rfl rfl ?_
      by_cases c7 : v6.toInt = x1.toInt
      · refine xi_cmf (pc' := 37) kc_185_34 rfl (xc_ne_f (X := v6.toInt) (Y := x1.toInt) rfl rfl (by omega)) ?_
        refine xi_aload_n (pc' := 38) (x := 85) kc_185_37 rfl rfl ?_
        refine xi_getfield (pc' := 41) (v := .ref 86) kc_185_38 rfl rfl rfl A3 rfl ?_
        refine xi_iload (pc' := 43) (x := x5) kc_185_41 rfl rfl ?_
        refine xcps4 (xk_arr K.1 xD_86) (fun y8 A8 hy8 ry8 => ?_)
        refine xcps4 (xj_get hy8 ry8 (i := x5) (by omega) (by omega)) (fun v9 ev9 bv9 dv9 => ?_)
        refine xi_iaload (pc' := 44) (v := v9) kc_185_43 rfl A8 (by decide) rfl (xi_in (by omega) (by rw [hy8]; omega)) ev9 ?_
        refine xi_iload_n (pc' := 45) (x := x2) kc_185_44 rfl rfl ?_
        by_cases c10 : x2.toInt < v9.toInt
        · refine xi_cmt (pc' := 72) kc_185_45 rfl (xc_gt_t (X := v9.toInt) (Y := x2.toInt) rfl rfl (by omega)) ?_
          refine xcps2 (α := Int32) (x5 + 1) (fun v11 ev11 => ?_)
          have zv11 : v11.toInt = (x5.toInt + 1) := by rw [← ev11]; exact (xz_add (X := x5.toInt) (Y := 1) rfl (by decide) (by omega) (by omega)).trans (by omega)
          refine xi_iinc (pc' := 75) (x := x5) (v := v11) (lv' := [(5, .int v11), (0, .ref 85), (1, .int x1), (2, .int x2), (3, .int x3), (4, .int x4)]) kc_185_72 rfl rfl ev11 rfl (xm_lt ml_185 rfl) ?_
          refine xi_goto (pc' := 10) kc_185_75 rfl ?_
          refine xw_lv (b := [(0, .ref 85), (1, .int x1), (2, .int x2), (3, .int x3), (4, .int x4), (5, .int v11)]) (lvS_cons (lvS_cons (lvS_cons (lvS_cons (lvS_cons (lvS_cons (lvS_nil (show ([5, 0, 1, 2, 3, 4] : List Nat).Nodup by decide)) rfl) rfl) rfl) rfl) rfl) rfl) ?_
          exact i0 x1 x2 x3 x4 v11 h (by omega) (by omega) (by omega) (by omega) K (by omega)
        · refine xi_cmf (pc' := 48) kc_185_45 rfl (xc_gt_f (X := v9.toInt) (Y := x2.toInt) rfl rfl (by omega)) ?_
          refine xi_aload_n (pc' := 49) (x := 85) kc_185_48 rfl rfl ?_
          refine xi_getfield (pc' := 52) (v := .ref 86) kc_185_49 rfl rfl rfl A3 rfl ?_
          refine xi_iload (pc' := 54) (x := x5) kc_185_52 rfl rfl ?_
          refine xi_iaload (pc' := 55) (v := v9) kc_185_54 rfl A8 (by decide) rfl (xi_in (by omega) (by rw [hy8]; omega)) ev9 ?_
          refine xi_iload (pc' := 57) (x := x4) kc_185_55 rfl rfl ?_
          by_cases c12 : v9.toInt < x4.toInt
          · refine xi_cmt (pc' := 72) kc_185_57 rfl (xc_lt_t (X := v9.toInt) (Y := x4.toInt) rfl rfl (by omega)) ?_
            refine xcps2 (α := Int32) (x5 + 1) (fun v13 ev13 => ?_)
            have zv13 : v13.toInt = (x5.toInt + 1) := by rw [← ev13]; exact (xz_add (X := x5.toInt) (Y := 1) rfl (by decide) (by omega) (by omega)).trans (by omega)
            refine xi_iinc (pc' := 75) (x := x5) (v := v13) (lv' := [(5, .int v13), (0, .ref 85), (1, .int x1), (2, .int x2), (3, .int x3), (4, .int x4)]) kc_185_72 rfl rfl ev13 rfl (xm_lt ml_185 rfl) ?_
            refine xi_goto (pc' := 10) kc_185_75 rfl ?_
            refine xw_lv (b := [(0, .ref 85), (1, .int x1), (2, .int x2), (3, .int x3), (4, .int x4), (5, .int v13)]) (lvS_cons (lvS_cons (lvS_cons (lvS_cons (lvS_cons (lvS_cons (lvS_nil (show ([5, 0, 1, 2, 3, 4] : List Nat).Nodup by decide)) rfl) rfl) rfl) rfl) rfl) rfl) ?_
            exact i0 x1 x2 x3 x4 v13 h (by omega) (by omega) (by omega) (by omega) K (by omega)
          · refine xi_cmf (pc' := 60) kc_185_57 rfl (xc_lt_f (X := v9.toInt) (Y := x4.toInt) rfl rfl (by omega)) ?_
            refine xi_iload (pc' := 62) (x := x5) kc_185_60 rfl rfl ?_
            refine xi_istore_n (pc' := 63) (lv' := [(3, .int x5), (0, .ref 85), (1, .int x1), (2, .int x2), (4, .int x4), (5, .int x5)]) kc_185_62 rfl rfl (xm_lt ml_185 rfl) ?_
            refine xi_aload_n (pc' := 64) (x := 85) kc_185_63 rfl rfl ?_
            refine xi_getfield (pc' := 67) (v := .ref 86) kc_185_64 rfl rfl rfl A3 rfl ?_
            refine xi_iload (pc' := 69) (x := x5) kc_185_67 rfl rfl ?_
            refine xi_iaload (pc' := 70) (v := v9) kc_185_69 rfl A8 (by decide) rfl (xi_in (by omega) (by rw [hy8]; omega)) ev9 ?_
            refine xi_istore (pc' := 72) (lv' := [(4, .int v9), (3, .int x5), (0, .ref 85), (1, .int x1), (2, .int x2), (5, .int x5)]) kc_185_70 rfl rfl (xm_lt ml_185 rfl) ?_
            refine xcps2 (α := Int32) (x5 + 1) (fun v14 ev14 => ?_)
            have zv14 : v14.toInt = (x5.toInt + 1) := by rw [← ev14]; exact (xz_add (X := x5.toInt) (Y := 1) rfl (by decide) (by omega) (by omega)).trans (by omega)
            refine xi_iinc (pc' := 75) (x := x5) (v := v14) (lv' := [(5, .int v14), (4, .int v9), (3, .int x5), (0, .ref 85), (1, .int x1), (2, .int x2)]) kc_185_72 rfl rfl ev14 rfl (xm_lt ml_185 rfl) ?_
            refine xi_goto (pc' := 10) kc_185_75 rfl ?_
            refine xw_lv (b := [(0, .ref 85), (1, .int x1), (2, .int x2), (3, .int x5), (4, .int v9), (5, .int v14)]) (lvS_cons (lvS_cons (lvS_cons (lvS_cons (lvS_cons (lvS_cons (lvS_nil (show ([5, 4, 3, 0, 1, 2] : List Nat).Nodup by decide)) rfl) rfl) rfl) rfl) rfl) rfl) ?_
            exact i0 x1 x2 x5 v9 v14 h (by omega) (by omega) (by omega) (by omega) K (by omega)
      · refine xi_cmt (pc' := 72) kc_185_34 rfl (xc_ne_t (X := v6.toInt) (Y := x1.toInt) rfl rfl (by omega)) ?_
        refine xcps2 (α := Int32) (x5 + 1) (fun v15 ev15 => ?_)
        have zv15 : v15.toInt = (x5.toInt + 1) := by rw [← ev15]; exact (xz_add (X := x5.toInt) (Y := 1) rfl (by decide) (by omega) (by omega)).trans (by omega)
        refine xi_iinc (pc' := 75) (x := x5) (v := v15) (lv' := [(5, .int v15), (0, .ref 85), (1, .int x1), (2, .int x2), (3, .int x3), (4, .int x4)]) kc_185_72 rfl rfl ev15 rfl (xm_lt ml_185 rfl) ?_
        refine xi_goto (pc' := 10) kc_185_75 rfl ?_
        refine xw_lv (b := [(0, .ref 85), (1, .int x1), (2, .int x2), (3, .int x3), (4, .int x4), (5, .int v15)]) (lvS_cons (lvS_cons (lvS_cons (lvS_cons (lvS_cons (lvS_cons (lvS_nil (show ([5, 0, 1, 2, 3, 4] : List Nat).Nodup by decide)) rfl) rfl) rfl) rfl) rfl) rfl) ?_
        exact i0 x1 x2 x3 x4 v15 h (by omega) (by omega) (by omega) (by omega) K (by omega)
set_option maxHeartbeats 4000000 in
theorem mt_185_0 {J : xe_J} {ov : List (List Int32)} (hJ : ∀ d mj as h, mj ≠ xe_loff → J d mj as h = none) (hov1 : ov[1]? = some [10, 0, 0, 0, 0, 0]) (hov2 : ov[2]? = some [99, 30, 50, 50, 1, 99999]) {d : Nat} {Q : Option Value → xe_H → Prop} {h : xe_H} {x1 : Int32} {x2 : Int32} (T : xt h) (b1 : (0 ≤ x1.toInt ∧ x1.toInt ≤ 3)) (b2 : ((-89478486) ≤ x2.toInt ∧ x2.toInt ≤ 89478486)) (kk : (∀ (r : Int32) (h' : xe_H), ((-9) ≤ r.toInt ∧ r.toInt ≤ 11) → xk [(0, 9), (115, 1), (83, 0), (29, 0), (31, 0), (33, 0), (35, 0), (37, 0), (39, 0), (41, 0), (43, 0), (45, 0), (47, 0), (49, 0), (51, 0), (125, 0), (29, 2), (31, 2), (33, 2), (35, 2), (37, 2), (39, 2), (41, 2), (43, 2), (45, 2), (47, 2), (49, 2), (51, 2), (127, 0), (1, 5), (115, 23)] h h' → Q (some (.int r)) h')) : xw J ov (d + 1) 185 (0, [(0, .ref 85), (1, .int x1), (2, .int x2)], [], h) Q := by
  have K : xk [(0, 9), (115, 1), (83, 0), (29, 0), (31, 0), (33, 0), (35, 0), (37, 0), (39, 0), (41, 0), (43, 0), (45, 0), (47, 0), (49, 0), (51, 0), (125, 0), (29, 2), (31, 2), (33, 2), (35, 2), (37, 2), (39, 2), (41, 2), (43, 2), (45, 2), (47, 2), (49, 2), (51, 2), (127, 0), (1, 5), (115, 23)] h h := xk_re T
  refine xi_bipush (pc' := 2) (v := (-9)) kc_185_0 rfl rfl ?_
  refine xi_istore_n (pc' := 3) (lv' := [(3, .int (-9)), (0, .ref 85), (1, .int x1), (2, .int x2)]) kc_185_2 rfl rfl (xm_lt ml_185 rfl) ?_
  refine xi_bipush (pc' := 5) (v := (-9)) kc_185_3 rfl rfl ?_
  refine xi_istore (pc' := 7) (lv' := [(4, .int (-9)), (3, .int (-9)), (0, .ref 85), (1, .int x1), (2, .int x2)]) kc_185_5 rfl rfl (xm_lt ml_185 rfl) ?_
  refine xi_iconst (pc' := 8) (v := 0) kc_185_7 rfl rfl ?_
  refine xi_istore (pc' := 10) (lv' := [(5, .int 0), (4, .int (-9)), (3, .int (-9)), (0, .ref 85), (1, .int x1), (2, .int x2)]) kc_185_8 rfl rfl (xm_lt ml_185 rfl) ?_
  have zcm9 : ((-9) : Int32).toInt = (-9) := by decide
  have zc0 : (0 : Int32).toInt = 0 := by decide
  refine xw_lv (b := [(0, .ref 85), (1, .int x1), (2, .int x2), (3, .int (-9)), (4, .int (-9)), (5, .int 0)]) (lvS_cons (lvS_cons (lvS_cons (lvS_cons (lvS_cons (lvS_cons (lvS_nil (show ([5, 4, 3, 0, 1, 2] : List Nat).Nodup by decide)) rfl) rfl) rfl) rfl) rfl) rfl) ?_
  exact (lp_185_0 hJ hov1 hov2 (d := d) (hb := h) (fun r9 h9 b9 K9 => kk r9 h9 b9 (xk_tr K K9 rfl)) 13) x1 x2 (-9) (-9) 0 h (by omega) (by omega) (by omega) (by omega) (xk_re K.1) (by omega)
set_option maxHeartbeats 4000000 in
theorem mt_182_0 {J : xe_J} {ov : List (List Int32)} (hJ : ∀ d mj as h, mj ≠ xe_loff → J d mj as h = none) (hov1 : ov[1]? = some [10, 0, 0, 0, 0, 0]) (hov2 : ov[2]? = some [99, 30, 50, 50, 1, 99999]) {d : Nat} {Q : Option Value → xe_H → Prop} {h : xe_H} {x1 : Int32} {x2 : Int32} (T : xt h) (kk : (∀ (r : Int32) (h' : xe_H), xk [(0, 9), (115, 1), (83, 0), (29, 0), (31, 0), (33, 0), (35, 0), (37, 0), (39, 0), (41, 0), (43, 0), (45, 0), (47, 0), (49, 0), (51, 0), (125, 0), (29, 2), (31, 2), (33, 2), (35, 2), (37, 2), (39, 2), (41, 2), (43, 2), (45, 2), (47, 2), (49, 2), (51, 2), (127, 0), (1, 5), (115, 23)] h h' → Q (some (.int r)) h')) : xw J ov (d + 7) 182 (0, [(0, .ref 0), (1, .int x1), (2, .int x2)], [], h) Q := by
  have K : xk [(0, 9), (115, 1), (83, 0), (29, 0), (31, 0), (33, 0), (35, 0), (37, 0), (39, 0), (41, 0), (43, 0), (45, 0), (47, 0), (49, 0), (51, 0), (125, 0), (29, 2), (31, 2), (33, 2), (35, 2), (37, 2), (39, 2), (41, 2), (43, 2), (45, 2), (47, 2), (49, 2), (51, 2), (127, 0), (1, 5), (115, 23)] h h := xk_re T
  have rx1 := xc_rng x1
  have rx2 := xc_rng x2
  refine xi_iload_n (pc' := 1) (x := x1) kc_182_0 rfl rfl ?_
  refine xi_static (mj := 117) (as := [.int x1]) (st1 := []) (lv0 := [(0, .int x1)]) kc_182_1 rfl rfl (Nat.le_of_ble_eq_true rfl) rfl rfl (Nat.le_of_ble_eq_true rfl) (hJ _ _ _ _ (by decide)) (xm_le ml_117 rfl) rfl ?_
  refine xi_iload_n (pc' := 1) (x := x1) kc_117_0 rfl rfl ?_
  by_cases c1 : x1.toInt < 0
  · refine xi_ift (pc' := 13) kc_117_1 rfl (xc_lt_t (X := x1.toInt) (Y := 0) rfl (by decide) (by omega)) ?_
    refine xi_iconst (pc' := 14) (v := 0) kc_117_13 rfl rfl ?_
    refine xi_ireturn kc_117_14 mr_117 rfl ?_
    show xw J ov (d + 7) 182 (4, [(0, .ref 0), (1, .int x1), (2, .int x2)], [.int 0], h) _
    refine xi_ift (pc' := 16) kc_182_4 rfl rfl ?_
    refine xi_aload_n (pc' := 17) (x := 0) kc_182_16 rfl rfl ?_
    refine xi_bipush (pc' := 19) (v := (-2)) kc_182_17 rfl rfl ?_
    refine xp_0 K.1 (fun u2 u3 bu2 bu3 A4 => ?_)
    refine xi_virtual (mj := 90) (as := [.int (-2)]) (st1 := []) (lv0 := [(0, .ref 0), (1, .int (-2))]) kc_182_19 rfl rfl rfl rfl rfl A4 (Nat.le_of_ble_eq_true rfl) (hJ _ _ _ _ (by decide)) (xm_le ml_90 rfl) rfl ?_
    refine xi_iload_n (pc' := 1) (x := (-2)) kc_90_0 rfl rfl ?_
    refine xi_ineg (pc' := 2) (v := 2) kc_90_1 rfl rfl ?_
    refine xi_istore_n (pc' := 3) (lv' := [(2, .int 2), (0, .ref 0), (1, .int (-2))]) kc_90_2 rfl rfl (xm_lt ml_90 rfl) ?_
    refine xi_iload_n (pc' := 4) (x := 2) kc_90_3 rfl rfl ?_
    refine xi_iff (pc' := 7) kc_90_4 rfl rfl ?_
    refine xi_iload_n (pc' := 8) (x := 2) kc_90_7 rfl rfl ?_
    refine xi_aload_n (pc' := 9) (x := 0) kc_90_8 rfl rfl ?_
    refine xi_getfield (pc' := 12) (v := .ref 94) kc_90_9 rfl rfl rfl A4 rfl ?_
    refine xcps4 (xk_arr K.1 xD_94) (fun y5 A5 hy5 ry5 => ?_)
    refine xi_arraylength (pc' := 13) (n := 7) (v := 7) kc_90_12 rfl (xl_lenI (by decide) (by decide) A5 hy5) rfl ?_
    refine xi_cmf (pc' := 16) kc_90_13 rfl rfl ?_
    refine xi_aload_n (pc' := 17) (x := 0) kc_90_16 rfl rfl ?_
    refine xi_getfield (pc' := 20) (v := .ref 94) kc_90_17 rfl rfl rfl A4 rfl ?_
    refine xi_iload_n (pc' := 21) (x := 2) kc_90_20 rfl rfl ?_
    refine xi_dup2 (pc' := 22) kc_90_21 rfl ⟨rfl, rfl⟩ ?_
    refine xcps4 (xj_get hy5 ry5 (i := 2) (by decide) (by decide)) (fun v6 ev6 bv6 dv6 => ?_)
    refine xi_iaload (pc' := 23) (v := v6) kc_90_22 rfl A5 (by decide) rfl (xi_in (by decide) (by rw [hy5]; decide)) ev6 ?_
    refine xi_iconst (pc' := 24) (v := 1) kc_90_23 rfl rfl ?_
    refine xcps2 (α := Int32) ((v6 : Int32) + 1) (fun v7 ev7 => ?_)
    have rv7 := xc_rng v7
    refine xi_iadd (pc' := 25) (v := v7) kc_90_24 rfl ev7 ?_
    refine xcps4 (xj_set (v := v7) hy5 ry5 2 (by first | omega | decide) (by first | omega | decide)) (fun y8 s8 hy8 ry8 => ?_)
    refine xi_iastore (pc' := 26) (x' := y8) kc_90_25 rfl A5 rfl (xi_in (by decide) (by rw [hy5]; decide)) s8 (fun hh8 eh8 => ?_)
    have K9 := xk_pa K (xk_wa rfl) xD_94 hy8 ry8 eh8
    refine xi_iload_n (pc' := 27) (x := (-2)) kc_90_26 rfl rfl ?_
    refine xi_ireturn kc_90_27 mr_90 rfl ?_
    show xw J ov (d + 7) 182 (22, [(0, .ref 0), (1, .int x1), (2, .int x2)], [.int (-2)], hh8) _
    refine xi_ireturn kc_182_22 mr_182 rfl ?_
    have zcm2 : ((-2) : Int32).toInt = (-2) := by decide
    exact kk (-2) hh8 K9
  · refine xi_iff (pc' := 4) kc_117_1 rfl (xc_lt_f (X := x1.toInt) (Y := 0) rfl (by decide) (by omega)) ?_
    refine xi_iload_n (pc' := 5) (x := x1) kc_117_4 rfl rfl ?_
    refine xi_iconst (pc' := 6) (v := 4) kc_117_5 rfl rfl ?_
    by_cases c10 : 4 ≤ x1.toInt
    · refine xi_cmt (pc' := 13) kc_117_6 rfl (xc_ge_t (X := x1.toInt) (Y := 4) rfl (by decide) (by omega)) ?_
      refine xi_iconst (pc' := 14) (v := 0) kc_117_13 rfl rfl ?_
      refine xi_ireturn kc_117_14 mr_117 rfl ?_
      show xw J ov (d + 7) 182 (4, [(0, .ref 0), (1, .int x1), (2, .int x2)], [.int 0], h) _
      refine xi_ift (pc' := 16) kc_182_4 rfl rfl ?_
      refine xi_aload_n (pc' := 17) (x := 0) kc_182_16 rfl rfl ?_
      refine xi_bipush (pc' := 19) (v := (-2)) kc_182_17 rfl rfl ?_
      refine xp_0 K.1 (fun u11 u12 bu11 bu12 A13 => ?_)
      refine xi_virtual (mj := 90) (as := [.int (-2)]) (st1 := []) (lv0 := [(0, .ref 0), (1, .int (-2))]) kc_182_19 rfl rfl rfl rfl rfl A13 (Nat.le_of_ble_eq_true rfl) (hJ _ _ _ _ (by decide)) (xm_le ml_90 rfl) rfl ?_
      refine xi_iload_n (pc' := 1) (x := (-2)) kc_90_0 rfl rfl ?_
      refine xi_ineg (pc' := 2) (v := 2) kc_90_1 rfl rfl ?_
      refine xi_istore_n (pc' := 3) (lv' := [(2, .int 2), (0, .ref 0), (1, .int (-2))]) kc_90_2 rfl rfl (xm_lt ml_90 rfl) ?_
      refine xi_iload_n (pc' := 4) (x := 2) kc_90_3 rfl rfl ?_
      refine xi_iff (pc' := 7) kc_90_4 rfl rfl ?_
      refine xi_iload_n (pc' := 8) (x := 2) kc_90_7 rfl rfl ?_
      refine xi_aload_n (pc' := 9) (x := 0) kc_90_8 rfl rfl ?_
      refine xi_getfield (pc' := 12) (v := .ref 94) kc_90_9 rfl rfl rfl A13 rfl ?_
      refine xcps4 (xk_arr K.1 xD_94) (fun y14 A14 hy14 ry14 => ?_)
      refine xi_arraylength (pc' := 13) (n := 7) (v := 7) kc_90_12 rfl (xl_lenI (by decide) (by decide) A14 hy14) rfl ?_
      refine xi_cmf (pc' := 16) kc_90_13 rfl rfl ?_
      refine xi_aload_n (pc' := 17) (x := 0) kc_90_16 rfl rfl ?_
      refine xi_getfield (pc' := 20) (v := .ref 94) kc_90_17 rfl rfl rfl A13 rfl ?_
      refine xi_iload_n (pc' := 21) (x := 2) kc_90_20 rfl rfl ?_
      refine xi_dup2 (pc' := 22) kc_90_21 rfl ⟨rfl, rfl⟩ ?_
      refine xcps4 (xj_get hy14 ry14 (i := 2) (by decide) (by decide)) (fun v15 ev15 bv15 dv15 => ?_)
      refine xi_iaload (pc' := 23) (v := v15) kc_90_22 rfl A14 (by decide) rfl (xi_in (by decide) (by rw [hy14]; decide)) ev15 ?_
      refine xi_iconst (pc' := 24) (v := 1) kc_90_23 rfl rfl ?_
      refine xcps2 (α := Int32) ((v15 : Int32) + 1) (fun v16 ev16 => ?_)
      have rv16 := xc_rng v16
      refine xi_iadd (pc' := 25) (v := v16) kc_90_24 rfl ev16 ?_
      refine xcps4 (xj_set (v := v16) hy14 ry14 2 (by first | omega | decide) (by first | omega | decide)) (fun y17 s17 hy17 ry17 => ?_)
      refine xi_iastore (pc' := 26) (x' := y17) kc_90_25 rfl A14 rfl (xi_in (by decide) (by rw [hy14]; decide)) s17 (fun hh17 eh17 => ?_)
      have K18 := xk_pa K (xk_wa rfl) xD_94 hy17 ry17 eh17
      refine xi_iload_n (pc' := 27) (x := (-2)) kc_90_26 rfl rfl ?_
      refine xi_ireturn kc_90_27 mr_90 rfl ?_
      show xw J ov (d + 7) 182 (22, [(0, .ref 0), (1, .int x1), (2, .int x2)], [.int (-2)], hh17) _
      refine xi_ireturn kc_182_22 mr_182 rfl ?_
      have zcm2 : ((-2) : Int32).toInt = (-2) := by decide
      exact kk (-2) hh17 K18
    · refine xi_cmf (pc' := 9) kc_117_6 rfl (xc_ge_f (X := x1.toInt) (Y := 4) rfl (by decide) (by omega)) ?_
      refine xi_iconst (pc' := 10) (v := 1) kc_117_9 rfl rfl ?_
      refine xi_goto (pc' := 14) kc_117_10 rfl ?_
      refine xi_ireturn kc_117_14 mr_117 rfl ?_
      show xw J ov (d + 7) 182 (4, [(0, .ref 0), (1, .int x1), (2, .int x2)], [.int 1], h) _
      refine xi_iff (pc' := 7) kc_182_4 rfl rfl ?_
      refine xi_iload_n (pc' := 8) (x := x2) kc_182_7 rfl rfl ?_
      by_cases c19 : x2.toInt = 0
      · refine xi_ift (pc' := 23) kc_182_8 rfl (xc_eq_t (X := x2.toInt) (Y := 0) rfl (by decide) (by omega)) ?_
        refine xi_aload_n (pc' := 24) (x := 0) kc_182_23 rfl rfl ?_
        refine xp_0 K.1 (fun u20 u21 bu20 bu21 A22 => ?_)
        refine xi_getfield (pc' := 27) (v := .ref 1) kc_182_24 rfl rfl rfl A22 rfl ?_
        refine xi_aload_n (pc' := 28) (x := 0) kc_182_27 rfl rfl ?_
        refine xi_getfield (pc' := 31) (v := .ref 66) kc_182_28 rfl rfl rfl A22 rfl ?_
        refine xp_66 K.1 (fun u24 wl23 bu24 A25 => ?_)
        refine xi_virtual (mj := 145) (as := []) (st1 := [.ref 1]) (lv0 := [(0, .ref 66)]) kc_182_31 rfl rfl rfl rfl rfl A25 (Nat.le_of_ble_eq_true rfl) (hJ _ _ _ _ (by decide)) (xm_le ml_145 rfl) rfl ?_
        refine mt_145_0 hJ hov1 hov2 (d := d)  K.1 (fun r26 hh27 br26 K28 => ?_)
        have K29 := xk_tr K K28 rfl
        refine xp_0 K29.1 (fun u30 u31 bu30 bu31 A32 => ?_)
        have e33 : u21 = u31 := xk_eqi (q := 9) K28 rfl A22 A32 rfl rfl
        subst e33
        show xw J ov (d + 7) 182 (34, [(0, .ref 0), (1, .int x1), (2, .int x2)], [.int r26, .ref 1], hh27) _
        refine xi_iload_n (pc' := 35) (x := x1) kc_182_34 rfl rfl ?_
        refine xp_1 K29.1 (fun u34 u35 bu34 bu35 A36 => ?_)
        refine xi_virtual (mj := 183) (as := [.int r26, .int x1]) (st1 := []) (lv0 := [(0, .ref 1), (1, .int r26), (2, .int x1)]) kc_182_35 rfl rfl rfl rfl rfl A36 (Nat.le_of_ble_eq_true rfl) (hJ _ _ _ _ (by decide)) (xm_le ml_183 rfl) rfl ?_
        refine mt_183_0 hJ hov1 hov2 (d := d + 5) (x1 := r26) (x2 := x1) K29.1 (by first | omega | decide) (by first | omega | decide) (fun r37 hh38 br37 K39 => ?_)
        have K40 := xk_tr K29 K39 rfl
        refine xp_0 K40.1 (fun u41 u42 bu41 bu42 A43 => ?_)
        have e44 : u21 = u42 := xk_eqi (q := 9) K39 rfl A32 A43 rfl rfl
        subst e44
        refine xp_1 K40.1 (fun u45 u46 bu45 bu46 A47 => ?_)
        have e48 : u34 = u45 := xk_eqi (q := 5) K39 rfl A36 A47 rfl rfl
        subst e48
        show xw J ov (d + 7) 182 (38, [(0, .ref 0), (1, .int x1), (2, .int x2)], [.int r37], hh38) _
        by_cases c49 : r37.toInt = 0
        · refine xi_iff (pc' := 41) kc_182_38 rfl (xc_ne_f (X := r37.toInt) (Y := 0) rfl (by decide) (by omega)) ?_
          refine xi_bipush (pc' := 43) (v := (-9)) kc_182_41 rfl rfl ?_
          refine xi_ireturn kc_182_43 mr_182 rfl ?_
          have zcm9 : ((-9) : Int32).toInt = (-9) := by decide
          exact kk (-9) hh38 K40
        · refine xi_ift (pc' := 44) kc_182_38 rfl (xc_ne_t (X := r37.toInt) (Y := 0) rfl (by decide) (by omega)) ?_
          refine xi_aload_n (pc' := 45) (x := 0) kc_182_44 rfl rfl ?_
          refine xi_getfield (pc' := 48) (v := .ref 85) kc_182_45 rfl rfl rfl A43 rfl ?_
          refine xi_iload_n (pc' := 49) (x := x1) kc_182_48 rfl rfl ?_
          refine xi_aload_n (pc' := 50) (x := 0) kc_182_49 rfl rfl ?_
          refine xi_getfield (pc' := 53) (v := .int u21) kc_182_50 rfl rfl rfl A43 rfl ?_
          refine xp_85 K40.1 (fun u50 u51 bu50 bu51 A52 => ?_)
          refine xi_virtual (mj := 184) (as := [.int x1, .int u21]) (st1 := []) (lv0 := [(0, .ref 85), (1, .int x1), (2, .int u21)]) kc_182_53 rfl rfl rfl rfl rfl A52 (Nat.le_of_ble_eq_true rfl) (hJ _ _ _ _ (by decide)) (xm_le ml_184 rfl) rfl ?_
          refine xi_iload_n (pc' := 1) (x := x1) kc_184_0 rfl rfl ?_
          refine xi_static (mj := 117) (as := [.int x1]) (st1 := []) (lv0 := [(0, .int x1)]) kc_184_1 rfl rfl (Nat.le_of_ble_eq_true rfl) rfl rfl (Nat.le_of_ble_eq_true rfl) (hJ _ _ _ _ (by decide)) (xm_le ml_117 rfl) rfl ?_
          refine xi_iload_n (pc' := 1) (x := x1) kc_117_0 rfl rfl ?_
          refine xi_iff (pc' := 4) kc_117_1 rfl (xc_lt_f (X := x1.toInt) (Y := 0) rfl (by decide) (by omega)) ?_
          refine xi_iload_n (pc' := 5) (x := x1) kc_117_4 rfl rfl ?_
          refine xi_iconst (pc' := 6) (v := 4) kc_117_5 rfl rfl ?_
          refine xi_cmf (pc' := 9) kc_117_6 rfl (xc_ge_f (X := x1.toInt) (Y := 4) rfl (by decide) (by omega)) ?_
          refine xi_iconst (pc' := 10) (v := 1) kc_117_9 rfl rfl ?_
          refine xi_goto (pc' := 14) kc_117_10 rfl ?_
          refine xi_ireturn kc_117_14 mr_117 rfl ?_
          show xw J ov (d + 6) 184 (4, [(0, .ref 85), (1, .int x1), (2, .int u21)], [.int 1], hh38) _
          refine xi_iff (pc' := 7) kc_184_4 rfl rfl ?_
          refine xi_aload_n (pc' := 8) (x := 85) kc_184_7 rfl rfl ?_
          refine xi_getfield (pc' := 11) (v := .ref 92) kc_184_8 rfl rfl rfl A52 rfl ?_
          refine xi_iload_n (pc' := 12) (x := x1) kc_184_11 rfl rfl ?_
          refine xcps4 (xk_arr K40.1 xD_92) (fun y53 A53 hy53 ry53 => ?_)
          refine xcps4 (xj_get hy53 ry53 (i := x1) (by omega) (by omega)) (fun v54 ev54 bv54 dv54 => ?_)
          refine xi_iaload (pc' := 13) (v := v54) kc_184_12 rfl A53 (by decide) rfl (xi_in (by omega) (by rw [hy53]; omega)) ev54 ?_
          refine xi_bipush (pc' := 15) (v := (-9)) kc_184_13 rfl rfl ?_
          by_cases c55 : v54.toInt = (-9)
          · refine xi_cmt (pc' := 22) kc_184_15 rfl (xc_eq_t (X := v54.toInt) (Y := (-9)) rfl (by decide) (by omega)) ?_
            refine xi_iconst (pc' := 23) (v := 0) kc_184_22 rfl rfl ?_
            refine xi_istore_n (pc' := 24) (lv' := [(3, .int 0), (0, .ref 85), (1, .int x1), (2, .int u21)]) kc_184_23 rfl rfl (xm_lt ml_184 rfl) ?_
            refine xi_iload_n (pc' := 25) (x := 0) kc_184_24 rfl rfl ?_
            refine xi_ift (pc' := 37) kc_184_25 rfl rfl ?_
            refine xi_iload_n (pc' := 38) (x := u21) kc_184_37 rfl rfl ?_
            refine xi_bipush (pc' := 40) (v := 24) kc_184_38 rfl rfl ?_
            refine xcps2 (α := Int32) (u21 / 24) (fun v56 ev56 => ?_)
            have dv56 : v56.toInt = u21.toInt / 24 := by rw [← ev56]; exact xz_dive (X := u21.toInt) (Y := 24) rfl (by decide) (by omega) (by decide)
            have bv56 : 0 ≤ v56.toInt ∧ v56.toInt ≤ 25 := by omega
            refine xi_idiv (pc' := 41) (v := v56) kc_184_40 rfl ev56 (by decide) ?_
            refine xi_ireturn kc_184_41 mr_184 rfl ?_
            show xw J ov (d + 7) 182 (56, [(0, .ref 0), (1, .int x1), (2, .int x2)], [.int v56], hh38) _
            refine xi_istore_n (pc' := 57) (lv' := [(3, .int v56), (0, .ref 0), (1, .int x1), (2, .int x2)]) kc_182_56 rfl rfl (xm_lt ml_182 rfl) ?_
            refine xi_aload_n (pc' := 58) (x := 0) kc_182_57 rfl rfl ?_
            refine xi_getfield (pc' := 61) (v := .ref 85) kc_182_58 rfl rfl rfl A43 rfl ?_
            refine xi_iload_n (pc' := 62) (x := x1) kc_182_61 rfl rfl ?_
            refine xi_iload_n (pc' := 63) (x := v56) kc_182_62 rfl rfl ?_
            refine xi_virtual (mj := 185) (as := [.int x1, .int v56]) (st1 := []) (lv0 := [(0, .ref 85), (1, .int x1), (2, .int v56)]) kc_182_63 rfl rfl rfl rfl rfl A52 (Nat.le_of_ble_eq_true rfl) (hJ _ _ _ _ (by decide)) (xm_le ml_185 rfl) rfl ?_
            refine mt_185_0 hJ hov1 hov2 (d := d + 5) (x1 := x1) (x2 := v56) K40.1 (by first | omega | decide) (by first | omega | decide) (fun r57 hh58 br57 K59 => ?_)
            have K60 := xk_tr K40 K59 rfl
            refine xp_0 K60.1 (fun u61 u62 bu61 bu62 A63 => ?_)
            have e64 : u21 = u62 := xk_eqi (q := 9) K59 rfl A43 A63 rfl rfl
            subst e64
            refine xp_1 K60.1 (fun u65 u66 bu65 bu66 A67 => ?_)
            have e68 : u34 = u65 := xk_eqi (q := 5) K59 rfl A47 A67 rfl rfl
            subst e68
            show xw J ov (d + 7) 182 (66, [(3, .int v56), (0, .ref 0), (1, .int x1), (2, .int x2)], [.int r57], hh58) _
            refine xi_istore (pc' := 68) (lv' := [(4, .int r57), (3, .int v56), (0, .ref 0), (1, .int x1), (2, .int x2)]) kc_182_66 rfl rfl (xm_lt ml_182 rfl) ?_
            refine xi_iload (pc' := 70) (x := r57) kc_182_68 rfl rfl ?_
            refine xi_bipush (pc' := 72) (v := (-9)) kc_182_70 rfl rfl ?_
            by_cases c69 : r57.toInt = (-9)
            · refine xi_cmf (pc' := 75) kc_182_72 rfl (xc_ne_f (X := r57.toInt) (Y := (-9)) rfl (by decide) (by omega)) ?_
              refine xi_bipush (pc' := 77) (v := (-9)) kc_182_75 rfl rfl ?_
              refine xi_ireturn kc_182_77 mr_182 rfl ?_
              have zcm9 : ((-9) : Int32).toInt = (-9) := by decide
              exact kk (-9) hh58 K60
            · refine xi_cmt (pc' := 78) kc_182_72 rfl (xc_ne_t (X := r57.toInt) (Y := (-9)) rfl (by decide) (by omega)) ?_
              refine xi_iload_n (pc' := 79) (x := x2) kc_182_78 rfl rfl ?_
              refine xi_iff (pc' := 82) kc_182_79 rfl (xc_ne_f (X := x2.toInt) (Y := 0) rfl (by decide) (by omega)) ?_
              refine xi_iload_n (pc' := 83) (x := v56) kc_182_82 rfl rfl ?_
              refine xi_aload_n (pc' := 84) (x := 0) kc_182_83 rfl rfl ?_
              refine xi_getfield (pc' := 87) (v := .ref 85) kc_182_84 rfl rfl rfl A63 rfl ?_
              refine xi_iload (pc' := 89) (x := r57) kc_182_87 rfl rfl ?_
              refine xp_85 K60.1 (fun u70 u71 bu70 bu71 A72 => ?_)
              refine xi_virtual (mj := 186) (as := [.int r57]) (st1 := [.int v56]) (lv0 := [(0, .ref 85), (1, .int r57)]) kc_182_89 rfl rfl rfl rfl rfl A72 (Nat.le_of_ble_eq_true rfl) (hJ _ _ _ _ (by decide)) (xm_le ml_186 rfl) rfl ?_
              refine xi_iload_n (pc' := 1) (x := r57) kc_186_0 rfl rfl ?_
              by_cases c73 : r57.toInt < 0
              · refine xi_ift (pc' := 10) kc_186_1 rfl (xc_lt_t (X := r57.toInt) (Y := 0) rfl (by decide) (by omega)) ?_
                refine xi_iconst (pc' := 11) (v := 0) kc_186_10 rfl rfl ?_
                refine xi_ireturn kc_186_11 mr_186 rfl ?_
                show xw J ov (d + 7) 182 (92, [(4, .int r57), (3, .int v56), (0, .ref 0), (1, .int x1), (2, .int x2)], [.int 0, .int v56], hh58) _
                refine xcps2 (α := Int32) (v56 + 0) (fun v74 ev74 => ?_)
                have zv74 : v74.toInt = v56.toInt := by rw [← ev74]; exact (xz_add (X := v56.toInt) (Y := 0) rfl (by decide) (by omega) (by omega)).trans (by omega)
                refine xi_iadd (pc' := 93) (v := v74) kc_182_92 rfl ev74 ?_
                refine xi_goto (pc' := 105) kc_182_93 rfl ?_
                refine xi_ireturn kc_182_105 mr_182 rfl ?_
                exact kk v74 hh58 K60
              · refine xi_iff (pc' := 4) kc_186_1 rfl (xc_lt_f (X := r57.toInt) (Y := 0) rfl (by decide) (by omega)) ?_
                refine xi_iload_n (pc' := 5) (x := r57) kc_186_4 rfl rfl ?_
                refine xi_bipush (pc' := 7) (v := 12) kc_186_5 rfl rfl ?_
                refine xi_cmt (pc' := 12) kc_186_7 rfl (xc_lt_t (X := r57.toInt) (Y := 12) rfl (by decide) (by omega)) ?_
                refine xi_aload_n (pc' := 13) (x := 85) kc_186_12 rfl rfl ?_
                refine xi_getfield (pc' := 16) (v := .int u70) kc_186_13 rfl rfl rfl A72 rfl ?_
                by_cases c75 : u70.toInt = 0
                · refine xi_ift (pc' := 32) kc_186_16 rfl (xc_eq_t (X := u70.toInt) (Y := 0) rfl (by decide) (by omega)) ?_
                  refine xi_aload_n (pc' := 33) (x := 85) kc_186_32 rfl rfl ?_
                  refine xi_getfield (pc' := 36) (v := .ref 89) kc_186_33 rfl rfl rfl A72 rfl ?_
                  refine xi_iload_n (pc' := 37) (x := r57) kc_186_36 rfl rfl ?_
                  refine xcps4 (xk_arr K60.1 xD_89) (fun y76 A76 hy76 ry76 => ?_)
                  refine xcps4 (xj_get hy76 ry76 (i := r57) (by omega) (by omega)) (fun v77 ev77 bv77 dv77 => ?_)
                  refine xi_iaload (pc' := 38) (v := v77) kc_186_37 rfl A76 (by decide) rfl (xi_in (by omega) (by rw [hy76]; omega)) ev77 ?_
                  refine xi_ireturn kc_186_38 mr_186 rfl ?_
                  show xw J ov (d + 7) 182 (92, [(4, .int r57), (3, .int v56), (0, .ref 0), (1, .int x1), (2, .int x2)], [.int v77, .int v56], hh58) _
                  refine xcps2 (α := Int32) ((v56 : Int32) + v77) (fun v78 ev78 => ?_)
                  have rv78 := xc_rng v78
                  refine xi_iadd (pc' := 93) (v := v78) kc_182_92 rfl ev78 ?_
                  refine xi_goto (pc' := 105) kc_182_93 rfl ?_
                  refine xi_ireturn kc_182_105 mr_182 rfl ?_
                  exact kk v78 hh58 K60
                · refine xi_iff (pc' := 19) kc_186_16 rfl (xc_eq_f (X := u70.toInt) (Y := 0) rfl (by decide) (by omega)) ?_
                  refine xi_aload_n (pc' := 20) (x := 85) kc_186_19 rfl rfl ?_
                  refine xi_getfield (pc' := 23) (v := .ref 89) kc_186_20 rfl rfl rfl A72 rfl ?_
                  refine xi_iload_n (pc' := 24) (x := r57) kc_186_23 rfl rfl ?_
                  refine xcps4 (xk_arr K60.1 xD_89) (fun y79 A79 hy79 ry79 => ?_)
                  refine xcps4 (xj_get hy79 ry79 (i := r57) (by omega) (by omega)) (fun v80 ev80 bv80 dv80 => ?_)
                  refine xi_iaload (pc' := 25) (v := v80) kc_186_24 rfl A79 (by decide) rfl (xi_in (by omega) (by rw [hy79]; omega)) ev80 ?_
                  refine xi_iconst (pc' := 26) (v := 1) kc_186_25 rfl rfl ?_
                  refine xcps2 (α := Int32) ((v80 : Int32) + 1) (fun v81 ev81 => ?_)
                  have rv81 := xc_rng v81
                  refine xi_iadd (pc' := 27) (v := v81) kc_186_26 rfl ev81 ?_
                  refine xi_iconst (pc' := 28) (v := 2) kc_186_27 rfl rfl ?_
                  refine xcps2 (α := Int32) (v81 / 2) (fun v82 ev82 => ?_)
                  have dv82 : 2 * v82.toInt ≤ v81.toInt + 1 ∧ v81.toInt ≤ 2 * v82.toInt + 1 := by rw [← ev82]; exact xz_div (X := v81.toInt) (Y := 2) rfl (by decide) (by decide)
                  have bv82 : -1073741825 ≤ v82.toInt ∧ v82.toInt ≤ 1073741824 := by omega
                  refine xi_idiv (pc' := 29) (v := v82) kc_186_28 rfl ev82 (by decide) ?_
                  refine xi_goto (pc' := 38) kc_186_29 rfl ?_
                  refine xi_ireturn kc_186_38 mr_186 rfl ?_
                  show xw J ov (d + 7) 182 (92, [(4, .int r57), (3, .int v56), (0, .ref 0), (1, .int x1), (2, .int x2)], [.int v82, .int v56], hh58) _
                  refine xcps2 (α := Int32) (v56 + v82) (fun v83 ev83 => ?_)
                  have zv83 : v83.toInt = (v56.toInt + v82.toInt) := by rw [← ev83]; exact (xz_add (X := v56.toInt) (Y := v82.toInt) rfl rfl (by omega) (by omega)).trans (by omega)
                  refine xi_iadd (pc' := 93) (v := v83) kc_182_92 rfl ev83 ?_
                  refine xi_goto (pc' := 105) kc_182_93 rfl ?_
                  refine xi_ireturn kc_182_105 mr_182 rfl ?_
                  exact kk v83 hh58 K60
          · refine xi_cmf (pc' := 18) kc_184_15 rfl (xc_eq_f (X := v54.toInt) (Y := (-9)) rfl (by decide) (by omega)) ?_
            refine xi_iconst (pc' := 19) (v := 1) kc_184_18 rfl rfl ?_
            refine xi_goto (pc' := 23) kc_184_19 rfl ?_
            refine xi_istore_n (pc' := 24) (lv' := [(3, .int 1), (0, .ref 85), (1, .int x1), (2, .int u21)]) kc_184_23 rfl rfl (xm_lt ml_184 rfl) ?_
            refine xi_iload_n (pc' := 25) (x := 1) kc_184_24 rfl rfl ?_
            refine xi_iff (pc' := 28) kc_184_25 rfl rfl ?_
            refine xi_aload_n (pc' := 29) (x := 85) kc_184_28 rfl rfl ?_
            refine xi_getfield (pc' := 32) (v := .ref 92) kc_184_29 rfl rfl rfl A52 rfl ?_
            refine xi_iload_n (pc' := 33) (x := x1) kc_184_32 rfl rfl ?_
            refine xi_iaload (pc' := 34) (v := v54) kc_184_33 rfl A53 (by decide) rfl (xi_in (by omega) (by rw [hy53]; omega)) ev54 ?_
            refine xi_goto (pc' := 38) kc_184_34 rfl ?_
            refine xi_bipush (pc' := 40) (v := 24) kc_184_38 rfl rfl ?_
            refine xcps2 (α := Int32) (v54 / 24) (fun v84 ev84 => ?_)
            have dv84 : 24 * v84.toInt ≤ v54.toInt + 23 ∧ v54.toInt ≤ 24 * v84.toInt + 23 := by rw [← ev84]; exact xz_div (X := v54.toInt) (Y := 24) rfl (by decide) (by decide)
            have bv84 : -89478486 ≤ v84.toInt ∧ v84.toInt ≤ 89478486 := by omega
            refine xi_idiv (pc' := 41) (v := v84) kc_184_40 rfl ev84 (by decide) ?_
            refine xi_ireturn kc_184_41 mr_184 rfl ?_
            show xw J ov (d + 7) 182 (56, [(0, .ref 0), (1, .int x1), (2, .int x2)], [.int v84], hh38) _
            refine xi_istore_n (pc' := 57) (lv' := [(3, .int v84), (0, .ref 0), (1, .int x1), (2, .int x2)]) kc_182_56 rfl rfl (xm_lt ml_182 rfl) ?_
            refine xi_aload_n (pc' := 58) (x := 0) kc_182_57 rfl rfl ?_
            refine xi_getfield (pc' := 61) (v := .ref 85) kc_182_58 rfl rfl rfl A43 rfl ?_
            refine xi_iload_n (pc' := 62) (x := x1) kc_182_61 rfl rfl ?_
            refine xi_iload_n (pc' := 63) (x := v84) kc_182_62 rfl rfl ?_
            refine xi_virtual (mj := 185) (as := [.int x1, .int v84]) (st1 := []) (lv0 := [(0, .ref 85), (1, .int x1), (2, .int v84)]) kc_182_63 rfl rfl rfl rfl rfl A52 (Nat.le_of_ble_eq_true rfl) (hJ _ _ _ _ (by decide)) (xm_le ml_185 rfl) rfl ?_
            refine mt_185_0 hJ hov1 hov2 (d := d + 5) (x1 := x1) (x2 := v84) K40.1 (by first | omega | decide) (by first | omega | decide) (fun r85 hh86 br85 K87 => ?_)
            have K88 := xk_tr K40 K87 rfl
            refine xp_0 K88.1 (fun u89 u90 bu89 bu90 A91 => ?_)
            have e92 : u21 = u90 := xk_eqi (q := 9) K87 rfl A43 A91 rfl rfl
            subst e92
            refine xp_1 K88.1 (fun u93 u94 bu93 bu94 A95 => ?_)
            have e96 : u34 = u93 := xk_eqi (q := 5) K87 rfl A47 A95 rfl rfl
            subst e96
            show xw J ov (d + 7) 182 (66, [(3, .int v84), (0, .ref 0), (1, .int x1), (2, .int x2)], [.int r85], hh86) _
            refine xi_istore (pc' := 68) (lv' := [(4, .int r85), (3, .int v84), (0, .ref 0), (1, .int x1), (2, .int x2)]) kc_182_66 rfl rfl (xm_lt ml_182 rfl) ?_
            refine xi_iload (pc' := 70) (x := r85) kc_182_68 rfl rfl ?_
            refine xi_bipush (pc' := 72) (v := (-9)) kc_182_70 rfl rfl ?_
            by_cases c97 : r85.toInt = (-9)
            · refine xi_cmf (pc' := 75) kc_182_72 rfl (xc_ne_f (X := r85.toInt) (Y := (-9)) rfl (by decide) (by omega)) ?_
              refine xi_bipush (pc' := 77) (v := (-9)) kc_182_75 rfl rfl ?_
              refine xi_ireturn kc_182_77 mr_182 rfl ?_
              have zcm9 : ((-9) : Int32).toInt = (-9) := by decide
              exact kk (-9) hh86 K88
            · refine xi_cmt (pc' := 78) kc_182_72 rfl (xc_ne_t (X := r85.toInt) (Y := (-9)) rfl (by decide) (by omega)) ?_
              refine xi_iload_n (pc' := 79) (x := x2) kc_182_78 rfl rfl ?_
              refine xi_iff (pc' := 82) kc_182_79 rfl (xc_ne_f (X := x2.toInt) (Y := 0) rfl (by decide) (by omega)) ?_
              refine xi_iload_n (pc' := 83) (x := v84) kc_182_82 rfl rfl ?_
              refine xi_aload_n (pc' := 84) (x := 0) kc_182_83 rfl rfl ?_
              refine xi_getfield (pc' := 87) (v := .ref 85) kc_182_84 rfl rfl rfl A91 rfl ?_
              refine xi_iload (pc' := 89) (x := r85) kc_182_87 rfl rfl ?_
              refine xp_85 K88.1 (fun u98 u99 bu98 bu99 A100 => ?_)
              refine xi_virtual (mj := 186) (as := [.int r85]) (st1 := [.int v84]) (lv0 := [(0, .ref 85), (1, .int r85)]) kc_182_89 rfl rfl rfl rfl rfl A100 (Nat.le_of_ble_eq_true rfl) (hJ _ _ _ _ (by decide)) (xm_le ml_186 rfl) rfl ?_
              refine xi_iload_n (pc' := 1) (x := r85) kc_186_0 rfl rfl ?_
              by_cases c101 : r85.toInt < 0
              · refine xi_ift (pc' := 10) kc_186_1 rfl (xc_lt_t (X := r85.toInt) (Y := 0) rfl (by decide) (by omega)) ?_
                refine xi_iconst (pc' := 11) (v := 0) kc_186_10 rfl rfl ?_
                refine xi_ireturn kc_186_11 mr_186 rfl ?_
                show xw J ov (d + 7) 182 (92, [(4, .int r85), (3, .int v84), (0, .ref 0), (1, .int x1), (2, .int x2)], [.int 0, .int v84], hh86) _
                refine xcps2 (α := Int32) (v84 + 0) (fun v102 ev102 => ?_)
                have zv102 : v102.toInt = v84.toInt := by rw [← ev102]; exact (xz_add (X := v84.toInt) (Y := 0) rfl (by decide) (by omega) (by omega)).trans (by omega)
                refine xi_iadd (pc' := 93) (v := v102) kc_182_92 rfl ev102 ?_
                refine xi_goto (pc' := 105) kc_182_93 rfl ?_
                refine xi_ireturn kc_182_105 mr_182 rfl ?_
                exact kk v102 hh86 K88
              · refine xi_iff (pc' := 4) kc_186_1 rfl (xc_lt_f (X := r85.toInt) (Y := 0) rfl (by decide) (by omega)) ?_
                refine xi_iload_n (pc' := 5) (x := r85) kc_186_4 rfl rfl ?_
                refine xi_bipush (pc' := 7) (v := 12) kc_186_5 rfl rfl ?_
                refine xi_cmt (pc' := 12) kc_186_7 rfl (xc_lt_t (X := r85.toInt) (Y := 12) rfl (by decide) (by omega)) ?_
                refine xi_aload_n (pc' := 13) (x := 85) kc_186_12 rfl rfl ?_
                refine xi_getfield (pc' := 16) (v := .int u98) kc_186_13 rfl rfl rfl A100 rfl ?_
                by_cases c103 : u98.toInt = 0
                · refine xi_ift (pc' := 32) kc_186_16 rfl (xc_eq_t (X := u98.toInt) (Y := 0) rfl (by decide) (by omega)) ?_
                  refine xi_aload_n (pc' := 33) (x := 85) kc_186_32 rfl rfl ?_
                  refine xi_getfield (pc' := 36) (v := .ref 89) kc_186_33 rfl rfl rfl A100 rfl ?_
                  refine xi_iload_n (pc' := 37) (x := r85) kc_186_36 rfl rfl ?_
                  refine xcps4 (xk_arr K88.1 xD_89) (fun y104 A104 hy104 ry104 => ?_)
                  refine xcps4 (xj_get hy104 ry104 (i := r85) (by omega) (by omega)) (fun v105 ev105 bv105 dv105 => ?_)
                  refine xi_iaload (pc' := 38) (v := v105) kc_186_37 rfl A104 (by decide) rfl (xi_in (by omega) (by rw [hy104]; omega)) ev105 ?_
                  refine xi_ireturn kc_186_38 mr_186 rfl ?_
                  show xw J ov (d + 7) 182 (92, [(4, .int r85), (3, .int v84), (0, .ref 0), (1, .int x1), (2, .int x2)], [.int v105, .int v84], hh86) _
                  refine xcps2 (α := Int32) ((v84 : Int32) + v105) (fun v106 ev106 => ?_)
                  have rv106 := xc_rng v106
                  refine xi_iadd (pc' := 93) (v := v106) kc_182_92 rfl ev106 ?_
                  refine xi_goto (pc' := 105) kc_182_93 rfl ?_
                  refine xi_ireturn kc_182_105 mr_182 rfl ?_
                  exact kk v106 hh86 K88
                · refine xi_iff (pc' := 19) kc_186_16 rfl (xc_eq_f (X := u98.toInt) (Y := 0) rfl (by decide) (by omega)) ?_
                  refine xi_aload_n (pc' := 20) (x := 85) kc_186_19 rfl rfl ?_
                  refine xi_getfield (pc' := 23) (v := .ref 89) kc_186_20 rfl rfl rfl A100 rfl ?_
                  refine xi_iload_n (pc' := 24) (x := r85) kc_186_23 rfl rfl ?_
                  refine xcps4 (xk_arr K88.1 xD_89) (fun y107 A107 hy107 ry107 => ?_)
                  refine xcps4 (xj_get hy107 ry107 (i := r85) (by omega) (by omega)) (fun v108 ev108 bv108 dv108 => ?_)
                  refine xi_iaload (pc' := 25) (v := v108) kc_186_24 rfl A107 (by decide) rfl (xi_in (by omega) (by rw [hy107]; omega)) ev108 ?_
                  refine xi_iconst (pc' := 26) (v := 1) kc_186_25 rfl rfl ?_
                  refine xcps2 (α := Int32) ((v108 : Int32) + 1) (fun v109 ev109 => ?_)
                  have rv109 := xc_rng v109
                  refine xi_iadd (pc' := 27) (v := v109) kc_186_26 rfl ev109 ?_
                  refine xi_iconst (pc' := 28) (v := 2) kc_186_27 rfl rfl ?_
                  refine xcps2 (α := Int32) (v109 / 2) (fun v110 ev110 => ?_)
                  have dv110 : 2 * v110.toInt ≤ v109.toInt + 1 ∧ v109.toInt ≤ 2 * v110.toInt + 1 := by rw [← ev110]; exact xz_div (X := v109.toInt) (Y := 2) rfl (by decide) (by decide)
                  have bv110 : -1073741825 ≤ v110.toInt ∧ v110.toInt ≤ 1073741824 := by omega
                  refine xi_idiv (pc' := 29) (v := v110) kc_186_28 rfl ev110 (by decide) ?_
                  refine xi_goto (pc' := 38) kc_186_29 rfl ?_
                  refine xi_ireturn kc_186_38 mr_186 rfl ?_
                  show xw J ov (d + 7) 182 (92, [(4, .int r85), (3, .int v84), (0, .ref 0), (1, .int x1), (2, .int x2)], [.int v110, .int v84], hh86) _
                  refine xcps2 (α := Int32) (v84 + v110) (fun v111 ev111 => ?_)
                  have zv111 : v111.toInt = (v84.toInt + v110.toInt) := by rw [← ev111]; exact (xz_add (X := v84.toInt) (Y := v110.toInt) rfl rfl (by omega) (by omega)).trans (by omega)
                  refine xi_iadd (pc' := 93) (v := v111) kc_182_92 rfl ev111 ?_
                  refine xi_goto (pc' := 105) kc_182_93 rfl ?_
                  refine xi_ireturn kc_182_105 mr_182 rfl ?_
                  exact kk v111 hh86 K88
      · refine xi_iff (pc' := 11) kc_182_8 rfl (xc_eq_f (X := x2.toInt) (Y := 0) rfl (by decide) (by omega)) ?_
        refine xi_iload_n (pc' := 12) (x := x2) kc_182_11 rfl rfl ?_
        refine xi_iconst (pc' := 13) (v := 1) kc_182_12 rfl rfl ?_
        by_cases c112 : x2.toInt = 1
        · refine xi_cmt (pc' := 23) kc_182_13 rfl (xc_eq_t (X := x2.toInt) (Y := 1) rfl (by decide) (by omega)) ?_
          refine xi_aload_n (pc' := 24) (x := 0) kc_182_23 rfl rfl ?_
          refine xp_0 K.1 (fun u113 u114 bu113 bu114 A115 => ?_)
          refine xi_getfield (pc' := 27) (v := .ref 1) kc_182_24 rfl rfl rfl A115 rfl ?_
          refine xi_aload_n (pc' := 28) (x := 0) kc_182_27 rfl rfl ?_
          refine xi_getfield (pc' := 31) (v := .ref 66) kc_182_28 rfl rfl rfl A115 rfl ?_
          refine xp_66 K.1 (fun u117 wl116 bu117 A118 => ?_)
          refine xi_virtual (mj := 145) (as := []) (st1 := [.ref 1]) (lv0 := [(0, .ref 66)]) kc_182_31 rfl rfl rfl rfl rfl A118 (Nat.le_of_ble_eq_true rfl) (hJ _ _ _ _ (by decide)) (xm_le ml_145 rfl) rfl ?_
          refine mt_145_0 hJ hov1 hov2 (d := d)  K.1 (fun r119 hh120 br119 K121 => ?_)
          have K122 := xk_tr K K121 rfl
          refine xp_0 K122.1 (fun u123 u124 bu123 bu124 A125 => ?_)
          have e126 : u114 = u124 := xk_eqi (q := 9) K121 rfl A115 A125 rfl rfl
          subst e126
          show xw J ov (d + 7) 182 (34, [(0, .ref 0), (1, .int x1), (2, .int x2)], [.int r119, .ref 1], hh120) _
          refine xi_iload_n (pc' := 35) (x := x1) kc_182_34 rfl rfl ?_
          refine xp_1 K122.1 (fun u127 u128 bu127 bu128 A129 => ?_)
          refine xi_virtual (mj := 183) (as := [.int r119, .int x1]) (st1 := []) (lv0 := [(0, .ref 1), (1, .int r119), (2, .int x1)]) kc_182_35 rfl rfl rfl rfl rfl A129 (Nat.le_of_ble_eq_true rfl) (hJ _ _ _ _ (by decide)) (xm_le ml_183 rfl) rfl ?_
          refine mt_183_0 hJ hov1 hov2 (d := d + 5) (x1 := r119) (x2 := x1) K122.1 (by first | omega | decide) (by first | omega | decide) (fun r130 hh131 br130 K132 => ?_)
          have K133 := xk_tr K122 K132 rfl
          refine xp_0 K133.1 (fun u134 u135 bu134 bu135 A136 => ?_)
          have e137 : u114 = u135 := xk_eqi (q := 9) K132 rfl A125 A136 rfl rfl
          subst e137
          refine xp_1 K133.1 (fun u138 u139 bu138 bu139 A140 => ?_)
          have e141 : u127 = u138 := xk_eqi (q := 5) K132 rfl A129 A140 rfl rfl
          subst e141
          show xw J ov (d + 7) 182 (38, [(0, .ref 0), (1, .int x1), (2, .int x2)], [.int r130], hh131) _
          by_cases c142 : r130.toInt = 0
          · refine xi_iff (pc' := 41) kc_182_38 rfl (xc_ne_f (X := r130.toInt) (Y := 0) rfl (by decide) (by omega)) ?_
            refine xi_bipush (pc' := 43) (v := (-9)) kc_182_41 rfl rfl ?_
            refine xi_ireturn kc_182_43 mr_182 rfl ?_
            have zcm9 : ((-9) : Int32).toInt = (-9) := by decide
            exact kk (-9) hh131 K133
          · refine xi_ift (pc' := 44) kc_182_38 rfl (xc_ne_t (X := r130.toInt) (Y := 0) rfl (by decide) (by omega)) ?_
            refine xi_aload_n (pc' := 45) (x := 0) kc_182_44 rfl rfl ?_
            refine xi_getfield (pc' := 48) (v := .ref 85) kc_182_45 rfl rfl rfl A136 rfl ?_
            refine xi_iload_n (pc' := 49) (x := x1) kc_182_48 rfl rfl ?_
            refine xi_aload_n (pc' := 50) (x := 0) kc_182_49 rfl rfl ?_
            refine xi_getfield (pc' := 53) (v := .int u114) kc_182_50 rfl rfl rfl A136 rfl ?_
            refine xp_85 K133.1 (fun u143 u144 bu143 bu144 A145 => ?_)
            refine xi_virtual (mj := 184) (as := [.int x1, .int u114]) (st1 := []) (lv0 := [(0, .ref 85), (1, .int x1), (2, .int u114)]) kc_182_53 rfl rfl rfl rfl rfl A145 (Nat.le_of_ble_eq_true rfl) (hJ _ _ _ _ (by decide)) (xm_le ml_184 rfl) rfl ?_
            refine xi_iload_n (pc' := 1) (x := x1) kc_184_0 rfl rfl ?_
            refine xi_static (mj := 117) (as := [.int x1]) (st1 := []) (lv0 := [(0, .int x1)]) kc_184_1 rfl rfl (Nat.le_of_ble_eq_true rfl) rfl rfl (Nat.le_of_ble_eq_true rfl) (hJ _ _ _ _ (by decide)) (xm_le ml_117 rfl) rfl ?_
            refine xi_iload_n (pc' := 1) (x := x1) kc_117_0 rfl rfl ?_
            refine xi_iff (pc' := 4) kc_117_1 rfl (xc_lt_f (X := x1.toInt) (Y := 0) rfl (by decide) (by omega)) ?_
            refine xi_iload_n (pc' := 5) (x := x1) kc_117_4 rfl rfl ?_
            refine xi_iconst (pc' := 6) (v := 4) kc_117_5 rfl rfl ?_
            refine xi_cmf (pc' := 9) kc_117_6 rfl (xc_ge_f (X := x1.toInt) (Y := 4) rfl (by decide) (by omega)) ?_
            refine xi_iconst (pc' := 10) (v := 1) kc_117_9 rfl rfl ?_
            refine xi_goto (pc' := 14) kc_117_10 rfl ?_
            refine xi_ireturn kc_117_14 mr_117 rfl ?_
            show xw J ov (d + 6) 184 (4, [(0, .ref 85), (1, .int x1), (2, .int u114)], [.int 1], hh131) _
            refine xi_iff (pc' := 7) kc_184_4 rfl rfl ?_
            refine xi_aload_n (pc' := 8) (x := 85) kc_184_7 rfl rfl ?_
            refine xi_getfield (pc' := 11) (v := .ref 92) kc_184_8 rfl rfl rfl A145 rfl ?_
            refine xi_iload_n (pc' := 12) (x := x1) kc_184_11 rfl rfl ?_
            refine xcps4 (xk_arr K133.1 xD_92) (fun y146 A146 hy146 ry146 => ?_)
            refine xcps4 (xj_get hy146 ry146 (i := x1) (by omega) (by omega)) (fun v147 ev147 bv147 dv147 => ?_)
            refine xi_iaload (pc' := 13) (v := v147) kc_184_12 rfl A146 (by decide) rfl (xi_in (by omega) (by rw [hy146]; omega)) ev147 ?_
            refine xi_bipush (pc' := 15) (v := (-9)) kc_184_13 rfl rfl ?_
            by_cases c148 : v147.toInt = (-9)
            · refine xi_cmt (pc' := 22) kc_184_15 rfl (xc_eq_t (X := v147.toInt) (Y := (-9)) rfl (by decide) (by omega)) ?_
              refine xi_iconst (pc' := 23) (v := 0) kc_184_22 rfl rfl ?_
              refine xi_istore_n (pc' := 24) (lv' := [(3, .int 0), (0, .ref 85), (1, .int x1), (2, .int u114)]) kc_184_23 rfl rfl (xm_lt ml_184 rfl) ?_
              refine xi_iload_n (pc' := 25) (x := 0) kc_184_24 rfl rfl ?_
              refine xi_ift (pc' := 37) kc_184_25 rfl rfl ?_
              refine xi_iload_n (pc' := 38) (x := u114) kc_184_37 rfl rfl ?_
              refine xi_bipush (pc' := 40) (v := 24) kc_184_38 rfl rfl ?_
              refine xcps2 (α := Int32) (u114 / 24) (fun v149 ev149 => ?_)
              have dv149 : v149.toInt = u114.toInt / 24 := by rw [← ev149]; exact xz_dive (X := u114.toInt) (Y := 24) rfl (by decide) (by omega) (by decide)
              have bv149 : 0 ≤ v149.toInt ∧ v149.toInt ≤ 25 := by omega
              refine xi_idiv (pc' := 41) (v := v149) kc_184_40 rfl ev149 (by decide) ?_
              refine xi_ireturn kc_184_41 mr_184 rfl ?_
              show xw J ov (d + 7) 182 (56, [(0, .ref 0), (1, .int x1), (2, .int x2)], [.int v149], hh131) _
              refine xi_istore_n (pc' := 57) (lv' := [(3, .int v149), (0, .ref 0), (1, .int x1), (2, .int x2)]) kc_182_56 rfl rfl (xm_lt ml_182 rfl) ?_
              refine xi_aload_n (pc' := 58) (x := 0) kc_182_57 rfl rfl ?_
              refine xi_getfield (pc' := 61) (v := .ref 85) kc_182_58 rfl rfl rfl A136 rfl ?_
              refine xi_iload_n (pc' := 62) (x := x1) kc_182_61 rfl rfl ?_
              refine xi_iload_n (pc' := 63) (x := v149) kc_182_62 rfl rfl ?_
              refine xi_virtual (mj := 185) (as := [.int x1, .int v149]) (st1 := []) (lv0 := [(0, .ref 85), (1, .int x1), (2, .int v149)]) kc_182_63 rfl rfl rfl rfl rfl A145 (Nat.le_of_ble_eq_true rfl) (hJ _ _ _ _ (by decide)) (xm_le ml_185 rfl) rfl ?_
              refine mt_185_0 hJ hov1 hov2 (d := d + 5) (x1 := x1) (x2 := v149) K133.1 (by first | omega | decide) (by first | omega | decide) (fun r150 hh151 br150 K152 => ?_)
              have K153 := xk_tr K133 K152 rfl
              refine xp_0 K153.1 (fun u154 u155 bu154 bu155 A156 => ?_)
              have e157 : u114 = u155 := xk_eqi (q := 9) K152 rfl A136 A156 rfl rfl
              subst e157
              refine xp_1 K153.1 (fun u158 u159 bu158 bu159 A160 => ?_)
              have e161 : u127 = u158 := xk_eqi (q := 5) K152 rfl A140 A160 rfl rfl
              subst e161
              show xw J ov (d + 7) 182 (66, [(3, .int v149), (0, .ref 0), (1, .int x1), (2, .int x2)], [.int r150], hh151) _
              refine xi_istore (pc' := 68) (lv' := [(4, .int r150), (3, .int v149), (0, .ref 0), (1, .int x1), (2, .int x2)]) kc_182_66 rfl rfl (xm_lt ml_182 rfl) ?_
              refine xi_iload (pc' := 70) (x := r150) kc_182_68 rfl rfl ?_
              refine xi_bipush (pc' := 72) (v := (-9)) kc_182_70 rfl rfl ?_
              by_cases c162 : r150.toInt = (-9)
              · refine xi_cmf (pc' := 75) kc_182_72 rfl (xc_ne_f (X := r150.toInt) (Y := (-9)) rfl (by decide) (by omega)) ?_
                refine xi_bipush (pc' := 77) (v := (-9)) kc_182_75 rfl rfl ?_
                refine xi_ireturn kc_182_77 mr_182 rfl ?_
                have zcm9 : ((-9) : Int32).toInt = (-9) := by decide
                exact kk (-9) hh151 K153
              · refine xi_cmt (pc' := 78) kc_182_72 rfl (xc_ne_t (X := r150.toInt) (Y := (-9)) rfl (by decide) (by omega)) ?_
                refine xi_iload_n (pc' := 79) (x := x2) kc_182_78 rfl rfl ?_
                refine xi_ift (pc' := 96) kc_182_79 rfl (xc_ne_t (X := x2.toInt) (Y := 0) rfl (by decide) (by omega)) ?_
                refine xi_aload_n (pc' := 97) (x := 0) kc_182_96 rfl rfl ?_
                refine xi_getfield (pc' := 100) (v := .ref 85) kc_182_97 rfl rfl rfl A156 rfl ?_
                refine xi_iload (pc' := 102) (x := r150) kc_182_100 rfl rfl ?_
                refine xp_85 K153.1 (fun u163 u164 bu163 bu164 A165 => ?_)
                refine xi_virtual (mj := 187) (as := [.int r150]) (st1 := []) (lv0 := [(0, .ref 85), (1, .int r150)]) kc_182_102 rfl rfl rfl rfl rfl A165 (Nat.le_of_ble_eq_true rfl) (hJ _ _ _ _ (by decide)) (xm_le ml_187 rfl) rfl ?_
                refine xi_iload_n (pc' := 1) (x := r150) kc_187_0 rfl rfl ?_
                by_cases c166 : r150.toInt < 0
                · refine xi_ift (pc' := 10) kc_187_1 rfl (xc_lt_t (X := r150.toInt) (Y := 0) rfl (by decide) (by omega)) ?_
                  refine xi_bipush (pc' := 12) (v := (-9)) kc_187_10 rfl rfl ?_
                  refine xi_goto (pc' := 21) kc_187_12 rfl ?_
                  refine xi_ireturn kc_187_21 mr_187 rfl ?_
                  show xw J ov (d + 7) 182 (105, [(4, .int r150), (3, .int v149), (0, .ref 0), (1, .int x1), (2, .int x2)], [.int (-9)], hh151) _
                  refine xi_ireturn kc_182_105 mr_182 rfl ?_
                  have zcm9 : ((-9) : Int32).toInt = (-9) := by decide
                  exact kk (-9) hh151 K153
                · refine xi_iff (pc' := 4) kc_187_1 rfl (xc_lt_f (X := r150.toInt) (Y := 0) rfl (by decide) (by omega)) ?_
                  refine xi_iload_n (pc' := 5) (x := r150) kc_187_4 rfl rfl ?_
                  refine xi_bipush (pc' := 7) (v := 12) kc_187_5 rfl rfl ?_
                  refine xi_cmt (pc' := 15) kc_187_7 rfl (xc_lt_t (X := r150.toInt) (Y := 12) rfl (by decide) (by omega)) ?_
                  refine xi_aload_n (pc' := 16) (x := 85) kc_187_15 rfl rfl ?_
                  refine xi_getfield (pc' := 19) (v := .ref 88) kc_187_16 rfl rfl rfl A165 rfl ?_
                  refine xi_iload_n (pc' := 20) (x := r150) kc_187_19 rfl rfl ?_
                  refine xcps4 (xk_arr K153.1 xD_88) (fun y167 A167 hy167 ry167 => ?_)
                  refine xcps4 (xj_get hy167 ry167 (i := r150) (by omega) (by omega)) (fun v168 ev168 bv168 dv168 => ?_)
                  refine xi_iaload (pc' := 21) (v := v168) kc_187_20 rfl A167 (by decide) rfl (xi_in (by omega) (by rw [hy167]; omega)) ev168 ?_
                  refine xi_ireturn kc_187_21 mr_187 rfl ?_
                  show xw J ov (d + 7) 182 (105, [(4, .int r150), (3, .int v149), (0, .ref 0), (1, .int x1), (2, .int x2)], [.int v168], hh151) _
                  refine xi_ireturn kc_182_105 mr_182 rfl ?_
                  exact kk v168 hh151 K153
            · refine xi_cmf (pc' := 18) kc_184_15 rfl (xc_eq_f (X := v147.toInt) (Y := (-9)) rfl (by decide) (by omega)) ?_
              refine xi_iconst (pc' := 19) (v := 1) kc_184_18 rfl rfl ?_
              refine xi_goto (pc' := 23) kc_184_19 rfl ?_
              refine xi_istore_n (pc' := 24) (lv' := [(3, .int 1), (0, .ref 85), (1, .int x1), (2, .int u114)]) kc_184_23 rfl rfl (xm_lt ml_184 rfl) ?_
              refine xi_iload_n (pc' := 25) (x := 1) kc_184_24 rfl rfl ?_
              refine xi_iff (pc' := 28) kc_184_25 rfl rfl ?_
              refine xi_aload_n (pc' := 29) (x := 85) kc_184_28 rfl rfl ?_
              refine xi_getfield (pc' := 32) (v := .ref 92) kc_184_29 rfl rfl rfl A145 rfl ?_
              refine xi_iload_n (pc' := 33) (x := x1) kc_184_32 rfl rfl ?_
              refine xi_iaload (pc' := 34) (v := v147) kc_184_33 rfl A146 (by decide) rfl (xi_in (by omega) (by rw [hy146]; omega)) ev147 ?_
              refine xi_goto (pc' := 38) kc_184_34 rfl ?_
              refine xi_bipush (pc' := 40) (v := 24) kc_184_38 rfl rfl ?_
              refine xcps2 (α := Int32) (v147 / 24) (fun v169 ev169 => ?_)
              have dv169 : 24 * v169.toInt ≤ v147.toInt + 23 ∧ v147.toInt ≤ 24 * v169.toInt + 23 := by rw [← ev169]; exact xz_div (X := v147.toInt) (Y := 24) rfl (by decide) (by decide)
              have bv169 : -89478486 ≤ v169.toInt ∧ v169.toInt ≤ 89478486 := by omega
              refine xi_idiv (pc' := 41) (v := v169) kc_184_40 rfl ev169 (by decide) ?_
              refine xi_ireturn kc_184_41 mr_184 rfl ?_
              show xw J ov (d + 7) 182 (56, [(0, .ref 0), (1, .int x1), (2, .int x2)], [.int v169], hh131) _
              refine xi_istore_n (pc' := 57) (lv' := [(3, .int v169), (0, .ref 0), (1, .int x1), (2, .int x2)]) kc_182_56 rfl rfl (xm_lt ml_182 rfl) ?_
              refine xi_aload_n (pc' := 58) (x := 0) kc_182_57 rfl rfl ?_
              refine xi_getfield (pc' := 61) (v := .ref 85) kc_182_58 rfl rfl rfl A136 rfl ?_
              refine xi_iload_n (pc' := 62) (x := x1) kc_182_61 rfl rfl ?_
              refine xi_iload_n (pc' := 63) (x := v169) kc_182_62 rfl rfl ?_
              refine xi_virtual (mj := 185) (as := [.int x1, .int v169]) (st1 := []) (lv0 := [(0, .ref 85), (1, .int x1), (2, .int v169)]) kc_182_63 rfl rfl rfl rfl rfl A145 (Nat.le_of_ble_eq_true rfl) (hJ _ _ _ _ (by decide)) (xm_le ml_185 rfl) rfl ?_
              refine mt_185_0 hJ hov1 hov2 (d := d + 5) (x1 := x1) (x2 := v169) K133.1 (by first | omega | decide) (by first | omega | decide) (fun r170 hh171 br170 K172 => ?_)
              have K173 := xk_tr K133 K172 rfl
              refine xp_0 K173.1 (fun u174 u175 bu174 bu175 A176 => ?_)
              have e177 : u114 = u175 := xk_eqi (q := 9) K172 rfl A136 A176 rfl rfl
              subst e177
              refine xp_1 K173.1 (fun u178 u179 bu178 bu179 A180 => ?_)
              have e181 : u127 = u178 := xk_eqi (q := 5) K172 rfl A140 A180 rfl rfl
              subst e181
              show xw J ov (d + 7) 182 (66, [(3, .int v169), (0, .ref 0), (1, .int x1), (2, .int x2)], [.int r170], hh171) _
              refine xi_istore (pc' := 68) (lv' := [(4, .int r170), (3, .int v169), (0, .ref 0), (1, .int x1), (2, .int x2)]) kc_182_66 rfl rfl (xm_lt ml_182 rfl) ?_
              refine xi_iload (pc' := 70) (x := r170) kc_182_68 rfl rfl ?_
              refine xi_bipush (pc' := 72) (v := (-9)) kc_182_70 rfl rfl ?_
              by_cases c182 : r170.toInt = (-9)
              · refine xi_cmf (pc' := 75) kc_182_72 rfl (xc_ne_f (X := r170.toInt) (Y := (-9)) rfl (by decide) (by omega)) ?_
                refine xi_bipush (pc' := 77) (v := (-9)) kc_182_75 rfl rfl ?_
                refine xi_ireturn kc_182_77 mr_182 rfl ?_
                have zcm9 : ((-9) : Int32).toInt = (-9) := by decide
                exact kk (-9) hh171 K173
              · refine xi_cmt (pc' := 78) kc_182_72 rfl (xc_ne_t (X := r170.toInt) (Y := (-9)) rfl (by decide) (by omega)) ?_
                refine xi_iload_n (pc' := 79) (x := x2) kc_182_78 rfl rfl ?_
                refine xi_ift (pc' := 96) kc_182_79 rfl (xc_ne_t (X := x2.toInt) (Y := 0) rfl (by decide) (by omega)) ?_
                refine xi_aload_n (pc' := 97) (x := 0) kc_182_96 rfl rfl ?_
                refine xi_getfield (pc' := 100) (v := .ref 85) kc_182_97 rfl rfl rfl A176 rfl ?_
                refine xi_iload (pc' := 102) (x := r170) kc_182_100 rfl rfl ?_
                refine xp_85 K173.1 (fun u183 u184 bu183 bu184 A185 => ?_)
                refine xi_virtual (mj := 187) (as := [.int r170]) (st1 := []) (lv0 := [(0, .ref 85), (1, .int r170)]) kc_182_102 rfl rfl rfl rfl rfl A185 (Nat.le_of_ble_eq_true rfl) (hJ _ _ _ _ (by decide)) (xm_le ml_187 rfl) rfl ?_
                refine xi_iload_n (pc' := 1) (x := r170) kc_187_0 rfl rfl ?_
                by_cases c186 : r170.toInt < 0
                · refine xi_ift (pc' := 10) kc_187_1 rfl (xc_lt_t (X := r170.toInt) (Y := 0) rfl (by decide) (by omega)) ?_
                  refine xi_bipush (pc' := 12) (v := (-9)) kc_187_10 rfl rfl ?_
                  refine xi_goto (pc' := 21) kc_187_12 rfl ?_
                  refine xi_ireturn kc_187_21 mr_187 rfl ?_
                  show xw J ov (d + 7) 182 (105, [(4, .int r170), (3, .int v169), (0, .ref 0), (1, .int x1), (2, .int x2)], [.int (-9)], hh171) _
                  refine xi_ireturn kc_182_105 mr_182 rfl ?_
                  have zcm9 : ((-9) : Int32).toInt = (-9) := by decide
                  exact kk (-9) hh171 K173
                · refine xi_iff (pc' := 4) kc_187_1 rfl (xc_lt_f (X := r170.toInt) (Y := 0) rfl (by decide) (by omega)) ?_
                  refine xi_iload_n (pc' := 5) (x := r170) kc_187_4 rfl rfl ?_
                  refine xi_bipush (pc' := 7) (v := 12) kc_187_5 rfl rfl ?_
                  refine xi_cmt (pc' := 15) kc_187_7 rfl (xc_lt_t (X := r170.toInt) (Y := 12) rfl (by decide) (by omega)) ?_
                  refine xi_aload_n (pc' := 16) (x := 85) kc_187_15 rfl rfl ?_
                  refine xi_getfield (pc' := 19) (v := .ref 88) kc_187_16 rfl rfl rfl A185 rfl ?_
                  refine xi_iload_n (pc' := 20) (x := r170) kc_187_19 rfl rfl ?_
                  refine xcps4 (xk_arr K173.1 xD_88) (fun y187 A187 hy187 ry187 => ?_)
                  refine xcps4 (xj_get hy187 ry187 (i := r170) (by omega) (by omega)) (fun v188 ev188 bv188 dv188 => ?_)
                  refine xi_iaload (pc' := 21) (v := v188) kc_187_20 rfl A187 (by decide) rfl (xi_in (by omega) (by rw [hy187]; omega)) ev188 ?_
                  refine xi_ireturn kc_187_21 mr_187 rfl ?_
                  show xw J ov (d + 7) 182 (105, [(4, .int r170), (3, .int v169), (0, .ref 0), (1, .int x1), (2, .int x2)], [.int v188], hh171) _
                  refine xi_ireturn kc_182_105 mr_182 rfl ?_
                  exact kk v188 hh171 K173
        · refine xi_cmf (pc' := 16) kc_182_13 rfl (xc_eq_f (X := x2.toInt) (Y := 1) rfl (by decide) (by omega)) ?_
          refine xi_aload_n (pc' := 17) (x := 0) kc_182_16 rfl rfl ?_
          refine xi_bipush (pc' := 19) (v := (-2)) kc_182_17 rfl rfl ?_
          refine xp_0 K.1 (fun u189 u190 bu189 bu190 A191 => ?_)
          refine xi_virtual (mj := 90) (as := [.int (-2)]) (st1 := []) (lv0 := [(0, .ref 0), (1, .int (-2))]) kc_182_19 rfl rfl rfl rfl rfl A191 (Nat.le_of_ble_eq_true rfl) (hJ _ _ _ _ (by decide)) (xm_le ml_90 rfl) rfl ?_
          refine xi_iload_n (pc' := 1) (x := (-2)) kc_90_0 rfl rfl ?_
          refine xi_ineg (pc' := 2) (v := 2) kc_90_1 rfl rfl ?_
          refine xi_istore_n (pc' := 3) (lv' := [(2, .int 2), (0, .ref 0), (1, .int (-2))]) kc_90_2 rfl rfl (xm_lt ml_90 rfl) ?_
          refine xi_iload_n (pc' := 4) (x := 2) kc_90_3 rfl rfl ?_
          refine xi_iff (pc' := 7) kc_90_4 rfl rfl ?_
          refine xi_iload_n (pc' := 8) (x := 2) kc_90_7 rfl rfl ?_
          refine xi_aload_n (pc' := 9) (x := 0) kc_90_8 rfl rfl ?_
          refine xi_getfield (pc' := 12) (v := .ref 94) kc_90_9 rfl rfl rfl A191 rfl ?_
          refine xcps4 (xk_arr K.1 xD_94) (fun y192 A192 hy192 ry192 => ?_)
          refine xi_arraylength (pc' := 13) (n := 7) (v := 7) kc_90_12 rfl (xl_lenI (by decide) (by decide) A192 hy192) rfl ?_
          refine xi_cmf (pc' := 16) kc_90_13 rfl rfl ?_
          refine xi_aload_n (pc' := 17) (x := 0) kc_90_16 rfl rfl ?_
          refine xi_getfield (pc' := 20) (v := .ref 94) kc_90_17 rfl rfl rfl A191 rfl ?_
          refine xi_iload_n (pc' := 21) (x := 2) kc_90_20 rfl rfl ?_
          refine xi_dup2 (pc' := 22) kc_90_21 rfl ⟨rfl, rfl⟩ ?_
          refine xcps4 (xj_get hy192 ry192 (i := 2) (by decide) (by decide)) (fun v193 ev193 bv193 dv193 => ?_)
          refine xi_iaload (pc' := 23) (v := v193) kc_90_22 rfl A192 (by decide) rfl (xi_in (by decide) (by rw [hy192]; decide)) ev193 ?_
          refine xi_iconst (pc' := 24) (v := 1) kc_90_23 rfl rfl ?_
          refine xcps2 (α := Int32) ((v193 : Int32) + 1) (fun v194 ev194 => ?_)
          have rv194 := xc_rng v194
          refine xi_iadd (pc' := 25) (v := v194) kc_90_24 rfl ev194 ?_
          refine xcps4 (xj_set (v := v194) hy192 ry192 2 (by first | omega | decide) (by first | omega | decide)) (fun y195 s195 hy195 ry195 => ?_)
          refine xi_iastore (pc' := 26) (x' := y195) kc_90_25 rfl A192 rfl (xi_in (by decide) (by rw [hy192]; decide)) s195 (fun hh195 eh195 => ?_)
          have K196 := xk_pa K (xk_wa rfl) xD_94 hy195 ry195 eh195
          refine xi_iload_n (pc' := 27) (x := (-2)) kc_90_26 rfl rfl ?_
          refine xi_ireturn kc_90_27 mr_90 rfl ?_
          show xw J ov (d + 7) 182 (22, [(0, .ref 0), (1, .int x1), (2, .int x2)], [.int (-2)], hh195) _
          refine xi_ireturn kc_182_22 mr_182 rfl ?_
          have zcm2 : ((-2) : Int32).toInt = (-2) := by decide
          exact kk (-2) hh195 K196
set_option maxHeartbeats 4000000 in
theorem mt_188_0 {J : xe_J} {ov : List (List Int32)} (hJ : ∀ d mj as h, mj ≠ xe_loff → J d mj as h = none) (hov1 : ov[1]? = some [10, 0, 0, 0, 0, 0]) (hov2 : ov[2]? = some [99, 30, 50, 50, 1, 99999]) {d : Nat} {Q : Option Value → xe_H → Prop} {h : xe_H} {x1 : Int32} (T : xt h) (kk : (∀ (r : Int32) (h' : xe_H), ((-2) ≤ r.toInt ∧ r.toInt ≤ 1) → xk [(0, 9), (115, 1), (83, 0), (29, 0), (31, 0), (33, 0), (35, 0), (37, 0), (39, 0), (41, 0), (43, 0), (45, 0), (47, 0), (49, 0), (51, 0), (125, 0), (29, 2), (31, 2), (33, 2), (35, 2), (37, 2), (39, 2), (41, 2), (43, 2), (45, 2), (47, 2), (49, 2), (51, 2), (127, 0), (1, 5), (115, 23)] h h' → Q (some (.int r)) h')) : xw J ov (d + 2) 188 (0, [(0, .ref 0), (1, .int x1)], [], h) Q := by
  have K : xk [(0, 9), (115, 1), (83, 0), (29, 0), (31, 0), (33, 0), (35, 0), (37, 0), (39, 0), (41, 0), (43, 0), (45, 0), (47, 0), (49, 0), (51, 0), (125, 0), (29, 2), (31, 2), (33, 2), (35, 2), (37, 2), (39, 2), (41, 2), (43, 2), (45, 2), (47, 2), (49, 2), (51, 2), (127, 0), (1, 5), (115, 23)] h h := xk_re T
  have rx1 := xc_rng x1
  refine xi_iload_n (pc' := 1) (x := x1) kc_188_0 rfl rfl ?_
  refine xi_static (mj := 117) (as := [.int x1]) (st1 := []) (lv0 := [(0, .int x1)]) kc_188_1 rfl rfl (Nat.le_of_ble_eq_true rfl) rfl rfl (Nat.le_of_ble_eq_true rfl) (hJ _ _ _ _ (by decide)) (xm_le ml_117 rfl) rfl ?_
  refine xi_iload_n (pc' := 1) (x := x1) kc_117_0 rfl rfl ?_
  by_cases c1 : x1.toInt < 0
  · refine xi_ift (pc' := 13) kc_117_1 rfl (xc_lt_t (X := x1.toInt) (Y := 0) rfl (by decide) (by omega)) ?_
    refine xi_iconst (pc' := 14) (v := 0) kc_117_13 rfl rfl ?_
    refine xi_ireturn kc_117_14 mr_117 rfl ?_
    show xw J ov (d + 2) 188 (4, [(0, .ref 0), (1, .int x1)], [.int 0], h) _
    refine xi_iff (pc' := 7) kc_188_4 rfl rfl ?_
    refine xi_aload_n (pc' := 8) (x := 0) kc_188_7 rfl rfl ?_
    refine xi_bipush (pc' := 10) (v := (-2)) kc_188_8 rfl rfl ?_
    refine xp_0 K.1 (fun u2 u3 bu2 bu3 A4 => ?_)
    refine xi_virtual (mj := 90) (as := [.int (-2)]) (st1 := []) (lv0 := [(0, .ref 0), (1, .int (-2))]) kc_188_10 rfl rfl rfl rfl rfl A4 (Nat.le_of_ble_eq_true rfl) (hJ _ _ _ _ (by decide)) (xm_le ml_90 rfl) rfl ?_
    refine xi_iload_n (pc' := 1) (x := (-2)) kc_90_0 rfl rfl ?_
    refine xi_ineg (pc' := 2) (v := 2) kc_90_1 rfl rfl ?_
    refine xi_istore_n (pc' := 3) (lv' := [(2, .int 2), (0, .ref 0), (1, .int (-2))]) kc_90_2 rfl rfl (xm_lt ml_90 rfl) ?_
    refine xi_iload_n (pc' := 4) (x := 2) kc_90_3 rfl rfl ?_
    refine xi_iff (pc' := 7) kc_90_4 rfl rfl ?_
    refine xi_iload_n (pc' := 8) (x := 2) kc_90_7 rfl rfl ?_
    refine xi_aload_n (pc' := 9) (x := 0) kc_90_8 rfl rfl ?_
    refine xi_getfield (pc' := 12) (v := .ref 94) kc_90_9 rfl rfl rfl A4 rfl ?_
    refine xcps4 (xk_arr K.1 xD_94) (fun y5 A5 hy5 ry5 => ?_)
    refine xi_arraylength (pc' := 13) (n := 7) (v := 7) kc_90_12 rfl (xl_lenI (by decide) (by decide) A5 hy5) rfl ?_
    refine xi_cmf (pc' := 16) kc_90_13 rfl rfl ?_
    refine xi_aload_n (pc' := 17) (x := 0) kc_90_16 rfl rfl ?_
    refine xi_getfield (pc' := 20) (v := .ref 94) kc_90_17 rfl rfl rfl A4 rfl ?_
    refine xi_iload_n (pc' := 21) (x := 2) kc_90_20 rfl rfl ?_
    refine xi_dup2 (pc' := 22) kc_90_21 rfl ⟨rfl, rfl⟩ ?_
    refine xcps4 (xj_get hy5 ry5 (i := 2) (by decide) (by decide)) (fun v6 ev6 bv6 dv6 => ?_)
    refine xi_iaload (pc' := 23) (v := v6) kc_90_22 rfl A5 (by decide) rfl (xi_in (by decide) (by rw [hy5]; decide)) ev6 ?_
    refine xi_iconst (pc' := 24) (v := 1) kc_90_23 rfl rfl ?_
    refine xcps2 (α := Int32) ((v6 : Int32) + 1) (fun v7 ev7 => ?_)
    have rv7 := xc_rng v7
    refine xi_iadd (pc' := 25) (v := v7) kc_90_24 rfl ev7 ?_
    refine xcps4 (xj_set (v := v7) hy5 ry5 2 (by first | omega | decide) (by first | omega | decide)) (fun y8 s8 hy8 ry8 => ?_)
    refine xi_iastore (pc' := 26) (x' := y8) kc_90_25 rfl A5 rfl (xi_in (by decide) (by rw [hy5]; decide)) s8 (fun hh8 eh8 => ?_)
    have K9 := xk_pa K (xk_wa rfl) xD_94 hy8 ry8 eh8
    refine xi_iload_n (pc' := 27) (x := (-2)) kc_90_26 rfl rfl ?_
    refine xi_ireturn kc_90_27 mr_90 rfl ?_
    show xw J ov (d + 2) 188 (13, [(0, .ref 0), (1, .int x1)], [.int (-2)], hh8) _
    refine xi_ireturn kc_188_13 mr_188 rfl ?_
    have zcm2 : ((-2) : Int32).toInt = (-2) := by decide
    exact kk (-2) hh8 (by omega) K9
  · refine xi_iff (pc' := 4) kc_117_1 rfl (xc_lt_f (X := x1.toInt) (Y := 0) rfl (by decide) (by omega)) ?_
    refine xi_iload_n (pc' := 5) (x := x1) kc_117_4 rfl rfl ?_
    refine xi_iconst (pc' := 6) (v := 4) kc_117_5 rfl rfl ?_
    by_cases c10 : 4 ≤ x1.toInt
    · refine xi_cmt (pc' := 13) kc_117_6 rfl (xc_ge_t (X := x1.toInt) (Y := 4) rfl (by decide) (by omega)) ?_
      refine xi_iconst (pc' := 14) (v := 0) kc_117_13 rfl rfl ?_
      refine xi_ireturn kc_117_14 mr_117 rfl ?_
      show xw J ov (d + 2) 188 (4, [(0, .ref 0), (1, .int x1)], [.int 0], h) _
      refine xi_iff (pc' := 7) kc_188_4 rfl rfl ?_
      refine xi_aload_n (pc' := 8) (x := 0) kc_188_7 rfl rfl ?_
      refine xi_bipush (pc' := 10) (v := (-2)) kc_188_8 rfl rfl ?_
      refine xp_0 K.1 (fun u11 u12 bu11 bu12 A13 => ?_)
      refine xi_virtual (mj := 90) (as := [.int (-2)]) (st1 := []) (lv0 := [(0, .ref 0), (1, .int (-2))]) kc_188_10 rfl rfl rfl rfl rfl A13 (Nat.le_of_ble_eq_true rfl) (hJ _ _ _ _ (by decide)) (xm_le ml_90 rfl) rfl ?_
      refine xi_iload_n (pc' := 1) (x := (-2)) kc_90_0 rfl rfl ?_
      refine xi_ineg (pc' := 2) (v := 2) kc_90_1 rfl rfl ?_
      refine xi_istore_n (pc' := 3) (lv' := [(2, .int 2), (0, .ref 0), (1, .int (-2))]) kc_90_2 rfl rfl (xm_lt ml_90 rfl) ?_
      refine xi_iload_n (pc' := 4) (x := 2) kc_90_3 rfl rfl ?_
      refine xi_iff (pc' := 7) kc_90_4 rfl rfl ?_
      refine xi_iload_n (pc' := 8) (x := 2) kc_90_7 rfl rfl ?_
      refine xi_aload_n (pc' := 9) (x := 0) kc_90_8 rfl rfl ?_
      refine xi_getfield (pc' := 12) (v := .ref 94) kc_90_9 rfl rfl rfl A13 rfl ?_
      refine xcps4 (xk_arr K.1 xD_94) (fun y14 A14 hy14 ry14 => ?_)
      refine xi_arraylength (pc' := 13) (n := 7) (v := 7) kc_90_12 rfl (xl_lenI (by decide) (by decide) A14 hy14) rfl ?_
      refine xi_cmf (pc' := 16) kc_90_13 rfl rfl ?_
      refine xi_aload_n (pc' := 17) (x := 0) kc_90_16 rfl rfl ?_
      refine xi_getfield (pc' := 20) (v := .ref 94) kc_90_17 rfl rfl rfl A13 rfl ?_
      refine xi_iload_n (pc' := 21) (x := 2) kc_90_20 rfl rfl ?_
      refine xi_dup2 (pc' := 22) kc_90_21 rfl ⟨rfl, rfl⟩ ?_
      refine xcps4 (xj_get hy14 ry14 (i := 2) (by decide) (by decide)) (fun v15 ev15 bv15 dv15 => ?_)
      refine xi_iaload (pc' := 23) (v := v15) kc_90_22 rfl A14 (by decide) rfl (xi_in (by decide) (by rw [hy14]; decide)) ev15 ?_
      refine xi_iconst (pc' := 24) (v := 1) kc_90_23 rfl rfl ?_
      refine xcps2 (α := Int32) ((v15 : Int32) + 1) (fun v16 ev16 => ?_)
      have rv16 := xc_rng v16
      refine xi_iadd (pc' := 25) (v := v16) kc_90_24 rfl ev16 ?_
      refine xcps4 (xj_set (v := v16) hy14 ry14 2 (by first | omega | decide) (by first | omega | decide)) (fun y17 s17 hy17 ry17 => ?_)
      refine xi_iastore (pc' := 26) (x' := y17) kc_90_25 rfl A14 rfl (xi_in (by decide) (by rw [hy14]; decide)) s17 (fun hh17 eh17 => ?_)
      have K18 := xk_pa K (xk_wa rfl) xD_94 hy17 ry17 eh17
      refine xi_iload_n (pc' := 27) (x := (-2)) kc_90_26 rfl rfl ?_
      refine xi_ireturn kc_90_27 mr_90 rfl ?_
      show xw J ov (d + 2) 188 (13, [(0, .ref 0), (1, .int x1)], [.int (-2)], hh17) _
      refine xi_ireturn kc_188_13 mr_188 rfl ?_
      have zcm2 : ((-2) : Int32).toInt = (-2) := by decide
      exact kk (-2) hh17 (by omega) K18
    · refine xi_cmf (pc' := 9) kc_117_6 rfl (xc_ge_f (X := x1.toInt) (Y := 4) rfl (by decide) (by omega)) ?_
      refine xi_iconst (pc' := 10) (v := 1) kc_117_9 rfl rfl ?_
      refine xi_goto (pc' := 14) kc_117_10 rfl ?_
      refine xi_ireturn kc_117_14 mr_117 rfl ?_
      show xw J ov (d + 2) 188 (4, [(0, .ref 0), (1, .int x1)], [.int 1], h) _
      refine xi_ift (pc' := 14) kc_188_4 rfl rfl ?_
      refine xi_aload_n (pc' := 15) (x := 0) kc_188_14 rfl rfl ?_
      refine xp_0 K.1 (fun u19 u20 bu19 bu20 A21 => ?_)
      refine xi_getfield (pc' := 18) (v := .ref 85) kc_188_15 rfl rfl rfl A21 rfl ?_
      refine xi_iload_n (pc' := 19) (x := x1) kc_188_18 rfl rfl ?_
      refine xp_85 K.1 (fun u22 u23 bu22 bu23 A24 => ?_)
      refine xi_virtual (mj := 189) (as := [.int x1]) (st1 := []) (lv0 := [(0, .ref 85), (1, .int x1)]) kc_188_19 rfl rfl rfl rfl rfl A24 (Nat.le_of_ble_eq_true rfl) (hJ _ _ _ _ (by decide)) (xm_le ml_189 rfl) rfl ?_
      refine xi_iload_n (pc' := 1) (x := x1) kc_189_0 rfl rfl ?_
      refine xi_static (mj := 117) (as := [.int x1]) (st1 := []) (lv0 := [(0, .int x1)]) kc_189_1 rfl rfl (Nat.le_of_ble_eq_true rfl) rfl rfl (Nat.le_of_ble_eq_true rfl) (hJ _ _ _ _ (by decide)) (xm_le ml_117 rfl) rfl ?_
      refine xi_iload_n (pc' := 1) (x := x1) kc_117_0 rfl rfl ?_
      refine xi_iff (pc' := 4) kc_117_1 rfl (xc_lt_f (X := x1.toInt) (Y := 0) rfl (by decide) (by omega)) ?_
      refine xi_iload_n (pc' := 5) (x := x1) kc_117_4 rfl rfl ?_
      refine xi_iconst (pc' := 6) (v := 4) kc_117_5 rfl rfl ?_
      refine xi_cmf (pc' := 9) kc_117_6 rfl (xc_ge_f (X := x1.toInt) (Y := 4) rfl (by decide) (by omega)) ?_
      refine xi_iconst (pc' := 10) (v := 1) kc_117_9 rfl rfl ?_
      refine xi_goto (pc' := 14) kc_117_10 rfl ?_
      refine xi_ireturn kc_117_14 mr_117 rfl ?_
      show xw J ov (d + 1) 189 (4, [(0, .ref 85), (1, .int x1)], [.int 1], h) _
      refine xi_iff (pc' := 7) kc_189_4 rfl rfl ?_
      refine xi_aload_n (pc' := 8) (x := 85) kc_189_7 rfl rfl ?_
      refine xi_getfield (pc' := 11) (v := .ref 90) kc_189_8 rfl rfl rfl A24 rfl ?_
      refine xi_iload_n (pc' := 12) (x := x1) kc_189_11 rfl rfl ?_
      refine xcps4 (xk_arr K.1 xD_90) (fun y25 A25 hy25 ry25 => ?_)
      refine xcps4 (xj_get hy25 ry25 (i := x1) (by omega) (by omega)) (fun v26 ev26 bv26 dv26 => ?_)
      refine xi_iaload (pc' := 13) (v := v26) kc_189_12 rfl A25 (by decide) rfl (xi_in (by omega) (by rw [hy25]; omega)) ev26 ?_
      by_cases c27 : v26.toInt = 0
      · refine xi_ift (pc' := 44) kc_189_13 rfl (xc_eq_t (X := v26.toInt) (Y := 0) rfl (by decide) (by omega)) ?_
        refine xi_iconst (pc' := 45) (v := 0) kc_189_44 rfl rfl ?_
        refine xi_ireturn kc_189_45 mr_189 rfl ?_
        show xw J ov (d + 2) 188 (22, [(0, .ref 0), (1, .int x1)], [.int 0], h) _
        refine xi_ift (pc' := 29) kc_188_22 rfl rfl ?_
        refine xi_iconst (pc' := 30) (v := 0) kc_188_29 rfl rfl ?_
        refine xi_ireturn kc_188_30 mr_188 rfl ?_
        have zc0 : (0 : Int32).toInt = 0 := by decide
        exact kk 0 h (by omega) K
      · refine xi_iff (pc' := 16) kc_189_13 rfl (xc_eq_f (X := v26.toInt) (Y := 0) rfl (by decide) (by omega)) ?_
        refine xi_aload_n (pc' := 17) (x := 85) kc_189_16 rfl rfl ?_
        refine xi_getfield (pc' := 20) (v := .ref 91) kc_189_17 rfl rfl rfl A24 rfl ?_
        refine xi_iload_n (pc' := 21) (x := x1) kc_189_20 rfl rfl ?_
        refine xcps4 (xk_arr K.1 xD_91) (fun y28 A28 hy28 ry28 => ?_)
        refine xcps4 (xj_get hy28 ry28 (i := x1) (by omega) (by omega)) (fun v29 ev29 bv29 dv29 => ?_)
        refine xi_iaload (pc' := 22) (v := v29) kc_189_21 rfl A28 (by decide) rfl (xi_in (by omega) (by rw [hy28]; omega)) ev29 ?_
        by_cases c30 : v29.toInt = 0
        · refine xi_ift (pc' := 44) kc_189_22 rfl (xc_eq_t (X := v29.toInt) (Y := 0) rfl (by decide) (by omega)) ?_
          refine xi_iconst (pc' := 45) (v := 0) kc_189_44 rfl rfl ?_
          refine xi_ireturn kc_189_45 mr_189 rfl ?_
          show xw J ov (d + 2) 188 (22, [(0, .ref 0), (1, .int x1)], [.int 0], h) _
          refine xi_ift (pc' := 29) kc_188_22 rfl rfl ?_
          refine xi_iconst (pc' := 30) (v := 0) kc_188_29 rfl rfl ?_
          refine xi_ireturn kc_188_30 mr_188 rfl ?_
          have zc0 : (0 : Int32).toInt = 0 := by decide
          exact kk 0 h (by omega) K
        · refine xi_iff (pc' := 25) kc_189_22 rfl (xc_eq_f (X := v29.toInt) (Y := 0) rfl (by decide) (by omega)) ?_
          refine xi_aload_n (pc' := 26) (x := 85) kc_189_25 rfl rfl ?_
          refine xi_getfield (pc' := 29) (v := .ref 90) kc_189_26 rfl rfl rfl A24 rfl ?_
          refine xi_iload_n (pc' := 30) (x := x1) kc_189_29 rfl rfl ?_
          refine xi_iaload (pc' := 31) (v := v26) kc_189_30 rfl A25 (by decide) rfl (xi_in (by omega) (by rw [hy25]; omega)) ev26 ?_
          refine xi_aload_n (pc' := 32) (x := 85) kc_189_31 rfl rfl ?_
          refine xi_getfield (pc' := 35) (v := .ref 91) kc_189_32 rfl rfl rfl A24 rfl ?_
          refine xi_iload_n (pc' := 36) (x := x1) kc_189_35 rfl rfl ?_
          refine xi_iaload (pc' := 37) (v := v29) kc_189_36 rfl A28 (by decide) rfl (xi_in (by omega) (by rw [hy28]; omega)) ev29 ?_
          by_cases c31 : v26.toInt = v29.toInt
          · refine xi_cmt (pc' := 44) kc_189_37 rfl (xc_eq_t (X := v26.toInt) (Y := v29.toInt) rfl rfl (by omega)) ?_
            refine xi_iconst (pc' := 45) (v := 0) kc_189_44 rfl rfl ?_
            refine xi_ireturn kc_189_45 mr_189 rfl ?_
            show xw J ov (d + 2) 188 (22, [(0, .ref 0), (1, .int x1)], [.int 0], h) _
            refine xi_ift (pc' := 29) kc_188_22 rfl rfl ?_
            refine xi_iconst (pc' := 30) (v := 0) kc_188_29 rfl rfl ?_
            refine xi_ireturn kc_188_30 mr_188 rfl ?_
            have zc0 : (0 : Int32).toInt = 0 := by decide
            exact kk 0 h (by omega) K
          · refine xi_cmf (pc' := 40) kc_189_37 rfl (xc_eq_f (X := v26.toInt) (Y := v29.toInt) rfl rfl (by omega)) ?_
            refine xi_iconst (pc' := 41) (v := 1) kc_189_40 rfl rfl ?_
            refine xi_goto (pc' := 45) kc_189_41 rfl ?_
            refine xi_ireturn kc_189_45 mr_189 rfl ?_
            show xw J ov (d + 2) 188 (22, [(0, .ref 0), (1, .int x1)], [.int 1], h) _
            refine xi_iff (pc' := 25) kc_188_22 rfl rfl ?_
            refine xi_iconst (pc' := 26) (v := 1) kc_188_25 rfl rfl ?_
            refine xi_goto (pc' := 30) kc_188_26 rfl ?_
            refine xi_ireturn kc_188_30 mr_188 rfl ?_
            have zc1 : (1 : Int32).toInt = 1 := by decide
            exact kk 1 h (by omega) K
set_option maxHeartbeats 4000000 in
theorem lp_191_0 {J : xe_J} {ov : List (List Int32)} (hJ : ∀ d mj as h, mj ≠ xe_loff → J d mj as h = none) (hov1 : ov[1]? = some [10, 0, 0, 0, 0, 0]) (hov2 : ov[2]? = some [99, 30, 50, 50, 1, 99999]) {d : Nat} {Q : Option Value → xe_H → Prop} {hb : xe_H} (kk : (∀ (r : Int32) (h' : xe_H), xk [(0, 9), (115, 1), (83, 0), (29, 0), (31, 0), (33, 0), (35, 0), (37, 0), (39, 0), (41, 0), (43, 0), (45, 0), (47, 0), (49, 0), (51, 0), (125, 0), (29, 2), (31, 2), (33, 2), (35, 2), (37, 2), (39, 2), (41, 2), (43, 2), (45, 2), (47, 2), (49, 2), (51, 2), (127, 0), (1, 5), (115, 23)] hb h' → Q (some (.int r)) h')) : ∀ m : Nat, (∀ (x1 : Int32) (x2 : Int32) (h : xe_H), (0 ≤ x2.toInt ∧ x2.toInt ≤ 12) → xk [(0, 9), (115, 1), (83, 0), (29, 0), (31, 0), (33, 0), (35, 0), (37, 0), (39, 0), (41, 0), (43, 0), (45, 0), (47, 0), (49, 0), (51, 0), (125, 0), (29, 2), (31, 2), (33, 2), (35, 2), (37, 2), (39, 2), (41, 2), (43, 2), (45, 2), (47, 2), (49, 2), (51, 2), (127, 0), (1, 5), (115, 23)] hb h → (-1) * x2.toInt + 12 < (m : Int) → xw J ov (d + 2) 191 (4, [(0, .ref 1), (1, .int x1), (2, .int x2)], [], h) Q) := by
  intro m
  induction m with
  | zero =>
    intro x1 x2 h b2 K hm; have rx1 := xc_rng x1; exfalso; omega
  | succ m ih =>
    have i0 := ih
    intro x1 x2 h b2 K hm
    have rx1 := xc_rng x1
    refine xi_iload_n (pc' := 5) (x := x2) kc_191_4 rfl rfl ?_
    refine xi_bipush (pc' := 7) (v := 12) kc_191_5 rfl rfl ?_
    by_cases c1 : 12 ≤ x2.toInt
    · refine xi_cmt (pc' := 36) kc_191_7 rfl (xc_ge_t (X := x2.toInt) (Y := 12) rfl (by decide) (by omega)) ?_
      refine xi_iload_n (pc' := 37) (x := x1) kc_191_36 rfl rfl ?_
      refine xi_ireturn kc_191_37 mr_191 rfl ?_
      exact kk x1 h K
    · refine xi_cmf (pc' := 10) kc_191_7 rfl (xc_ge_f (X := x2.toInt) (Y := 12) rfl (by decide) (by omega)) ?_
      refine xi_iload_n (pc' := 11) (x := x1) kc_191_10 rfl rfl ?_
      refine xi_aload_n (pc' := 12) (x := 1) kc_191_11 rfl rfl ?_
      refine xp_1 K.1 (fun u2 u3 bu2 bu3 A4 => ?_)
      refine xi_getfield (pc' := 15) (v := .ref 3) kc_191_12 rfl rfl rfl A4 rfl ?_
      refine xi_iload_n (pc' := 16) (x := x2) kc_191_15 rfl rfl ?_
      have A5 := xk_ex K.1 xD_3
      obtain ⟨pt6, ept6, mpt6⟩ := xR_3 (i := x2) (by omega) (by omega)
      refine xj_aaload (pc' := 17) (b := pt6) kc_191_16 rfl A5 rfl (xi_in (n := 12) (by omega) (by omega)) ept6 ?_
      obtain ⟨u7, u8, u9, u10, pt11, bu7, bu8, bu9, bu10, mpt11, A12⟩ := xg_wall K.1 mpt6
      refine xi_virtual (mj := 105) (as := []) (st1 := [.int x1]) (lv0 := [(0, .ref pt6)]) kc_191_17 rfl rfl rfl rfl rfl A12 (Nat.le_of_ble_eq_true rfl) (hJ _ _ _ _ (by decide)) (xm_le ml_105 rfl) rfl ?_
      refine xi_aload_n (pc' := 1) (x := pt6) kc_105_0 rfl rfl ?_
      refine xi_getfield (pc' := 4) (v := .int u7) kc_105_1 rfl rfl rfl A12 rfl ?_
      refine xi_static (mj := 89) (as := [.int u7]) (st1 := []) (lv0 := [(0, .int u7)]) kc_105_4 rfl rfl (Nat.le_of_ble_eq_true rfl) rfl rfl (Nat.le_of_ble_eq_true rfl) (hJ _ _ _ _ (by decide)) (xm_le ml_89 rfl) rfl ?_
      refine xi_iload_n (pc' := 1) (x := u7) kc_89_0 rfl rfl ?_
      by_cases c13 : u7.toInt < 0
      · refine xi_ift (pc' := 14) kc_89_1 rfl (xc_lt_t (X := u7.toInt) (Y := 0) rfl (by decide) (by omega)) ?_
        refine xi_iconst (pc' := 15) (v := 0) kc_89_14 rfl rfl ?_
        refine xi_ireturn kc_89_15 mr_89 rfl ?_
        show xw J ov (d + 1) 105 (7, [(0, .ref pt6)], [.int 0], h) _
        refine xi_ireturn kc_105_7 mr_105 rfl ?_
        show xw J ov (d + 2) 191 (20, [(0, .ref 1), (1, .int x1), (2, .int x2)], [.int 0, .int x1], h) _
        refine xi_ift (pc' := 27) kc_191_20 rfl rfl ?_
        refine xi_iconst (pc' := 28) (v := 0) kc_191_27 rfl rfl ?_
        refine xcps2 (α := Int32) (x1 + 0) (fun v14 ev14 => ?_)
        have zv14 : v14.toInt = x1.toInt := by rw [← ev14]; exact (xz_add (X := x1.toInt) (Y := 0) rfl (by decide) (by omega) (by omega)).trans (by omega)
        refine xi_iadd (pc' := 29) (v := v14) kc_191_28 rfl ev14 ?_
        refine xi_istore_n (pc' := 30) (lv' := [(1, .int v14), (0, .ref 1), (2, .int x2)]) kc_191_29 rfl rfl (xm_lt ml_191 rfl) ?_
        refine xcps2 (α := Int32) (x2 + 1) (fun v15 ev15 => ?_)
        have zv15 : v15.toInt = (x2.toInt + 1) := by rw [← ev15]; exact (xz_add (X := x2.toInt) (Y := 1) rfl (by decide) (by omega) (by omega)).trans (by omega)
        refine xi_iinc (pc' := 33) (x := x2) (v := v15) (lv' := [(2, .int v15), (1, .int v14), (0, .ref 1)]) kc_191_30 rfl rfl ev15 rfl (xm_lt ml_191 rfl) ?_
        refine xi_goto (pc' := 4) kc_191_33 rfl ?_
        refine xw_lv (b := [(0, .ref 1), (1, .int v14), (2, .int v15)]) (lvS_cons (lvS_cons (lvS_cons (lvS_nil (show ([2, 1, 0] : List Nat).Nodup by decide)) rfl) rfl) rfl) ?_
        exact i0 v14 v15 h (by omega) K (by omega)
      · refine xi_iff (pc' := 4) kc_89_1 rfl (xc_lt_f (X := u7.toInt) (Y := 0) rfl (by decide) (by omega)) ?_
        refine xi_iload_n (pc' := 5) (x := u7) kc_89_4 rfl rfl ?_
        refine xi_bipush (pc' := 7) (v := 6) kc_89_5 rfl rfl ?_
        by_cases c16 : 6 ≤ u7.toInt
        · refine xi_cmt (pc' := 14) kc_89_7 rfl (xc_ge_t (X := u7.toInt) (Y := 6) rfl (by decide) (by omega)) ?_
          refine xi_iconst (pc' := 15) (v := 0) kc_89_14 rfl rfl ?_
          refine xi_ireturn kc_89_15 mr_89 rfl ?_
          show xw J ov (d + 1) 105 (7, [(0, .ref pt6)], [.int 0], h) _
          refine xi_ireturn kc_105_7 mr_105 rfl ?_
          show xw J ov (d + 2) 191 (20, [(0, .ref 1), (1, .int x1), (2, .int x2)], [.int 0, .int x1], h) _
          refine xi_ift (pc' := 27) kc_191_20 rfl rfl ?_
          refine xi_iconst (pc' := 28) (v := 0) kc_191_27 rfl rfl ?_
          refine xcps2 (α := Int32) (x1 + 0) (fun v17 ev17 => ?_)
          have zv17 : v17.toInt = x1.toInt := by rw [← ev17]; exact (xz_add (X := x1.toInt) (Y := 0) rfl (by decide) (by omega) (by omega)).trans (by omega)
          refine xi_iadd (pc' := 29) (v := v17) kc_191_28 rfl ev17 ?_
          refine xi_istore_n (pc' := 30) (lv' := [(1, .int v17), (0, .ref 1), (2, .int x2)]) kc_191_29 rfl rfl (xm_lt ml_191 rfl) ?_
          refine xcps2 (α := Int32) (x2 + 1) (fun v18 ev18 => ?_)
          have zv18 : v18.toInt = (x2.toInt + 1) := by rw [← ev18]; exact (xz_add (X := x2.toInt) (Y := 1) rfl (by decide) (by omega) (by omega)).trans (by omega)
          refine xi_iinc (pc' := 33) (x := x2) (v := v18) (lv' := [(2, .int v18), (1, .int v17), (0, .ref 1)]) kc_191_30 rfl rfl ev18 rfl (xm_lt ml_191 rfl) ?_
          refine xi_goto (pc' := 4) kc_191_33 rfl ?_
          refine xw_lv (b := [(0, .ref 1), (1, .int v17), (2, .int v18)]) (lvS_cons (lvS_cons (lvS_cons (lvS_nil (show ([2, 1, 0] : List Nat).Nodup by decide)) rfl) rfl) rfl) ?_
          exact i0 v17 v18 h (by omega) K (by omega)
        · refine xi_cmf (pc' := 10) kc_89_7 rfl (xc_ge_f (X := u7.toInt) (Y := 6) rfl (by decide) (by omega)) ?_
          refine xi_iconst (pc' := 11) (v := 1) kc_89_10 rfl rfl ?_
          refine xi_goto (pc' := 15) kc_89_11 rfl ?_
          refine xi_ireturn kc_89_15 mr_89 rfl ?_
          show xw J ov (d + 1) 105 (7, [(0, .ref pt6)], [.int 1], h) _
          refine xi_ireturn kc_105_7 mr_105 rfl ?_
          show xw J ov (d + 2) 191 (20, [(0, .ref 1), (1, .int x1), (2, .int x2)], [.int 1, .int x1], h) _
          refine xi_iff (pc' := 23) kc_191_20 rfl rfl ?_
          refine xi_iconst (pc' := 24) (v := 1) kc_191_23 rfl rfl ?_
          refine xi_goto (pc' := 28) kc_191_24 rfl ?_
          refine xcps2 (α := Int32) ((x1 : Int32) + 1) (fun v19 ev19 => ?_)
          have rv19 := xc_rng v19
          refine xi_iadd (pc' := 29) (v := v19) kc_191_28 rfl ev19 ?_
          refine xi_istore_n (pc' := 30) (lv' := [(1, .int v19), (0, .ref 1), (2, .int x2)]) kc_191_29 rfl rfl (xm_lt ml_191 rfl) ?_
          refine xcps2 (α := Int32) (x2 + 1) (fun v20 ev20 => ?_)
          have zv20 : v20.toInt = (x2.toInt + 1) := by rw [← ev20]; exact (xz_add (X := x2.toInt) (Y := 1) rfl (by decide) (by omega) (by omega)).trans (by omega)
          refine xi_iinc (pc' := 33) (x := x2) (v := v20) (lv' := [(2, .int v20), (1, .int v19), (0, .ref 1)]) kc_191_30 rfl rfl ev20 rfl (xm_lt ml_191 rfl) ?_
          refine xi_goto (pc' := 4) kc_191_33 rfl ?_
          refine xw_lv (b := [(0, .ref 1), (1, .int v19), (2, .int v20)]) (lvS_cons (lvS_cons (lvS_cons (lvS_nil (show ([2, 1, 0] : List Nat).Nodup by decide)) rfl) rfl) rfl) ?_
          exact i0 v19 v20 h (by omega) K (by omega)
set_option maxHeartbeats 4000000 in
theorem mt_191_0 {J : xe_J} {ov : List (List Int32)} (hJ : ∀ d mj as h, mj ≠ xe_loff → J d mj as h = none) (hov1 : ov[1]? = some [10, 0, 0, 0, 0, 0]) (hov2 : ov[2]? = some [99, 30, 50, 50, 1, 99999]) {d : Nat} {Q : Option Value → xe_H → Prop} {h : xe_H} (T : xt h) (kk : (∀ (r : Int32) (h' : xe_H), xk [(0, 9), (115, 1), (83, 0), (29, 0), (31, 0), (33, 0), (35, 0), (37, 0), (39, 0), (41, 0), (43, 0), (45, 0), (47, 0), (49, 0), (51, 0), (125, 0), (29, 2), (31, 2), (33, 2), (35, 2), (37, 2), (39, 2), (41, 2), (43, 2), (45, 2), (47, 2), (49, 2), (51, 2), (127, 0), (1, 5), (115, 23)] h h' → Q (some (.int r)) h')) : xw J ov (d + 2) 191 (0, [(0, .ref 1)], [], h) Q := by
  have K : xk [(0, 9), (115, 1), (83, 0), (29, 0), (31, 0), (33, 0), (35, 0), (37, 0), (39, 0), (41, 0), (43, 0), (45, 0), (47, 0), (49, 0), (51, 0), (125, 0), (29, 2), (31, 2), (33, 2), (35, 2), (37, 2), (39, 2), (41, 2), (43, 2), (45, 2), (47, 2), (49, 2), (51, 2), (127, 0), (1, 5), (115, 23)] h h := xk_re T
  refine xi_iconst (pc' := 1) (v := 0) kc_191_0 rfl rfl ?_
  refine xi_istore_n (pc' := 2) (lv' := [(1, .int 0), (0, .ref 1)]) kc_191_1 rfl rfl (xm_lt ml_191 rfl) ?_
  refine xi_iconst (pc' := 3) (v := 0) kc_191_2 rfl rfl ?_
  refine xi_istore_n (pc' := 4) (lv' := [(2, .int 0), (1, .int 0), (0, .ref 1)]) kc_191_3 rfl rfl (xm_lt ml_191 rfl) ?_
  have zc0 : (0 : Int32).toInt = 0 := by decide
  refine xw_lv (b := [(0, .ref 1), (1, .int 0), (2, .int 0)]) (lvS_cons (lvS_cons (lvS_cons (lvS_nil (show ([2, 1, 0] : List Nat).Nodup by decide)) rfl) rfl) rfl) ?_
  exact (lp_191_0 hJ hov1 hov2 (d := d) (hb := h) (fun r9 h9 K9 => kk r9 h9 (xk_tr K K9 rfl)) 13) 0 0 h (by omega) (xk_re K.1) (by omega)
set_option maxHeartbeats 4000000 in
theorem lp_192_0 {J : xe_J} {ov : List (List Int32)} (hJ : ∀ d mj as h, mj ≠ xe_loff → J d mj as h = none) (hov1 : ov[1]? = some [10, 0, 0, 0, 0, 0]) (hov2 : ov[2]? = some [99, 30, 50, 50, 1, 99999]) {d : Nat} {Q : Option Value → xe_H → Prop} {hb : xe_H} (kk : (∀ (r : Int32) (h' : xe_H), xk [(0, 9), (115, 1), (83, 0), (29, 0), (31, 0), (33, 0), (35, 0), (37, 0), (39, 0), (41, 0), (43, 0), (45, 0), (47, 0), (49, 0), (51, 0), (125, 0), (29, 2), (31, 2), (33, 2), (35, 2), (37, 2), (39, 2), (41, 2), (43, 2), (45, 2), (47, 2), (49, 2), (51, 2), (127, 0), (1, 5), (115, 23)] hb h' → Q (some (.int r)) h')) : ∀ m : Nat, (∀ (x1 : Int32) (x2 : Int32) (h : xe_H), (0 ≤ x2.toInt ∧ x2.toInt ≤ 8) → xk [(0, 9), (115, 1), (83, 0), (29, 0), (31, 0), (33, 0), (35, 0), (37, 0), (39, 0), (41, 0), (43, 0), (45, 0), (47, 0), (49, 0), (51, 0), (125, 0), (29, 2), (31, 2), (33, 2), (35, 2), (37, 2), (39, 2), (41, 2), (43, 2), (45, 2), (47, 2), (49, 2), (51, 2), (127, 0), (1, 5), (115, 23)] hb h → (-1) * x2.toInt + 8 < (m : Int) → xw J ov (d + 1) 192 (4, [(0, .ref 75), (1, .int x1), (2, .int x2)], [], h) Q) := by
  intro m
  induction m with
  | zero =>
    intro x1 x2 h b2 K hm; have rx1 := xc_rng x1; exfalso; omega
  | succ m ih =>
    have i0 := ih
    intro x1 x2 h b2 K hm
    have rx1 := xc_rng x1
    refine xi_iload_n (pc' := 5) (x := x2) kc_192_4 rfl rfl ?_
    refine xi_aload_n (pc' := 6) (x := 75) kc_192_5 rfl rfl ?_
    refine xp_75 K.1 (fun u1 bu1 A2 => ?_)
    refine xi_getfield (pc' := 9) (v := .int u1) kc_192_6 rfl rfl rfl A2 rfl ?_
    by_cases c3 : u1.toInt ≤ x2.toInt
    · refine xi_cmt (pc' := 41) kc_192_9 rfl (xc_ge_t (X := x2.toInt) (Y := u1.toInt) rfl rfl (by omega)) ?_
      refine xi_iload_n (pc' := 42) (x := x1) kc_192_41 rfl rfl ?_
      refine xi_ireturn kc_192_42 mr_192 rfl ?_
      exact kk x1 h K
    · refine xi_cmf (pc' := 12) kc_192_9 rfl (xc_ge_f (X := x2.toInt) (Y := u1.toInt) rfl rfl (by omega)) ?_
      refine xi_iload_n (pc' := 13) (x := x2) kc_192_12 rfl rfl ?_
      refine xi_bipush (pc' := 15) (v := 8) kc_192_13 rfl rfl ?_
      refine xi_cmf (pc' := 18) kc_192_15 rfl (xc_ge_f (X := x2.toInt) (Y := 8) rfl (by decide) (by omega)) ?_
      refine xi_iload_n (pc' := 19) (x := x1) kc_192_18 rfl rfl ?_
      refine xi_aload_n (pc' := 20) (x := 75) kc_192_19 rfl rfl ?_
      refine xi_getfield (pc' := 23) (v := .ref 79) kc_192_20 rfl rfl rfl A2 rfl ?_
      refine xi_iload_n (pc' := 24) (x := x2) kc_192_23 rfl rfl ?_
      refine xcps4 (xk_arr K.1 xD_79) (fun y4 A4 hy4 ry4 => ?_)
      refine xcps4 (xj_get hy4 ry4 (i := x2) (by omega) (by omega)) (fun v5 ev5 bv5 dv5 => ?_)
      refine xi_iaload (pc' := 25) (v := v5) kc_192_24 rfl A4 (by decide) rfl (xi_in (by omega) (by rw [hy4]; omega)) ev5 ?_
      by_cases c6 : v5.toInt = 0
      · refine xi_iff (pc' := 28) kc_192_25 rfl (xc_ne_f (X := v5.toInt) (Y := 0) rfl (by decide) (by omega)) ?_
        refine xi_iconst (pc' := 29) (v := 0) kc_192_28 rfl rfl ?_
        refine xi_goto (pc' := 33) kc_192_29 rfl ?_
        refine xcps2 (α := Int32) (x1 + 0) (fun v7 ev7 => ?_)
        have zv7 : v7.toInt = x1.toInt := by rw [← ev7]; exact (xz_add (X := x1.toInt) (Y := 0) rfl (by decide) (by omega) (by omega)).trans (by omega)
        refine xi_iadd (pc' := 34) (v := v7) kc_192_33 rfl ev7 ?_
        refine xi_istore_n (pc' := 35) (lv' := [(1, .int v7), (0, .ref 75), (2, .int x2)]) kc_192_34 rfl rfl (xm_lt ml_192 rfl) ?_
        refine xcps2 (α := Int32) (x2 + 1) (fun v8 ev8 => ?_)
        have zv8 : v8.toInt = (x2.toInt + 1) := by rw [← ev8]; exact (xz_add (X := x2.toInt) (Y := 1) rfl (by decide) (by omega) (by omega)).trans (by omega)
        refine xi_iinc (pc' := 38) (x := x2) (v := v8) (lv' := [(2, .int v8), (1, .int v7), (0, .ref 75)]) kc_192_35 rfl rfl ev8 rfl (xm_lt ml_192 rfl) ?_
        refine xi_goto (pc' := 4) kc_192_38 rfl ?_
        refine xw_lv (b := [(0, .ref 75), (1, .int v7), (2, .int v8)]) (lvS_cons (lvS_cons (lvS_cons (lvS_nil (show ([2, 1, 0] : List Nat).Nodup by decide)) rfl) rfl) rfl) ?_
        exact i0 v7 v8 h (by omega) K (by omega)
      · refine xi_ift (pc' := 32) kc_192_25 rfl (xc_ne_t (X := v5.toInt) (Y := 0) rfl (by decide) (by omega)) ?_
        refine xi_iconst (pc' := 33) (v := 1) kc_192_32 rfl rfl ?_
        refine xcps2 (α := Int32) ((x1 : Int32) + 1) (fun v9 ev9 => ?_)
        have rv9 := xc_rng v9
        refine xi_iadd (pc' := 34) (v := v9) kc_192_33 rfl ev9 ?_
        refine xi_istore_n (pc' := 35) (lv' := [(1, .int v9), (0, .ref 75), (2, .int x2)]) kc_192_34 rfl rfl (xm_lt ml_192 rfl) ?_
        refine xcps2 (α := Int32) (x2 + 1) (fun v10 ev10 => ?_)
        have zv10 : v10.toInt = (x2.toInt + 1) := by rw [← ev10]; exact (xz_add (X := x2.toInt) (Y := 1) rfl (by decide) (by omega) (by omega)).trans (by omega)
        refine xi_iinc (pc' := 38) (x := x2) (v := v10) (lv' := [(2, .int v10), (1, .int v9), (0, .ref 75)]) kc_192_35 rfl rfl ev10 rfl (xm_lt ml_192 rfl) ?_
        refine xi_goto (pc' := 4) kc_192_38 rfl ?_
        refine xw_lv (b := [(0, .ref 75), (1, .int v9), (2, .int v10)]) (lvS_cons (lvS_cons (lvS_cons (lvS_nil (show ([2, 1, 0] : List Nat).Nodup by decide)) rfl) rfl) rfl) ?_
        exact i0 v9 v10 h (by omega) K (by omega)
set_option maxHeartbeats 4000000 in
theorem mt_192_0 {J : xe_J} {ov : List (List Int32)} (hJ : ∀ d mj as h, mj ≠ xe_loff → J d mj as h = none) (hov1 : ov[1]? = some [10, 0, 0, 0, 0, 0]) (hov2 : ov[2]? = some [99, 30, 50, 50, 1, 99999]) {d : Nat} {Q : Option Value → xe_H → Prop} {h : xe_H} (T : xt h) (kk : (∀ (r : Int32) (h' : xe_H), xk [(0, 9), (115, 1), (83, 0), (29, 0), (31, 0), (33, 0), (35, 0), (37, 0), (39, 0), (41, 0), (43, 0), (45, 0), (47, 0), (49, 0), (51, 0), (125, 0), (29, 2), (31, 2), (33, 2), (35, 2), (37, 2), (39, 2), (41, 2), (43, 2), (45, 2), (47, 2), (49, 2), (51, 2), (127, 0), (1, 5), (115, 23)] h h' → Q (some (.int r)) h')) : xw J ov (d + 1) 192 (0, [(0, .ref 75)], [], h) Q := by
  have K : xk [(0, 9), (115, 1), (83, 0), (29, 0), (31, 0), (33, 0), (35, 0), (37, 0), (39, 0), (41, 0), (43, 0), (45, 0), (47, 0), (49, 0), (51, 0), (125, 0), (29, 2), (31, 2), (33, 2), (35, 2), (37, 2), (39, 2), (41, 2), (43, 2), (45, 2), (47, 2), (49, 2), (51, 2), (127, 0), (1, 5), (115, 23)] h h := xk_re T
  refine xi_iconst (pc' := 1) (v := 0) kc_192_0 rfl rfl ?_
  refine xi_istore_n (pc' := 2) (lv' := [(1, .int 0), (0, .ref 75)]) kc_192_1 rfl rfl (xm_lt ml_192 rfl) ?_
  refine xi_iconst (pc' := 3) (v := 0) kc_192_2 rfl rfl ?_
  refine xi_istore_n (pc' := 4) (lv' := [(2, .int 0), (1, .int 0), (0, .ref 75)]) kc_192_3 rfl rfl (xm_lt ml_192 rfl) ?_
  have zc0 : (0 : Int32).toInt = 0 := by decide
  refine xw_lv (b := [(0, .ref 75), (1, .int 0), (2, .int 0)]) (lvS_cons (lvS_cons (lvS_cons (lvS_nil (show ([2, 1, 0] : List Nat).Nodup by decide)) rfl) rfl) rfl) ?_
  exact (lp_192_0 hJ hov1 hov2 (d := d) (hb := h) (fun r9 h9 K9 => kk r9 h9 (xk_tr K K9 rfl)) 9) 0 0 h (by omega) (xk_re K.1) (by omega)
set_option maxHeartbeats 4000000 in
theorem mt_190_0 {J : xe_J} {ov : List (List Int32)} (hJ : ∀ d mj as h, mj ≠ xe_loff → J d mj as h = none) (hov1 : ov[1]? = some [10, 0, 0, 0, 0, 0]) (hov2 : ov[2]? = some [99, 30, 50, 50, 1, 99999]) {d : Nat} {Q : Option Value → xe_H → Prop} {h : xe_H} {x1 : Int32} (T : xt h) (kk : (∀ (r : Int32) (h' : xe_H), xk [(0, 9), (115, 1), (83, 0), (29, 0), (31, 0), (33, 0), (35, 0), (37, 0), (39, 0), (41, 0), (43, 0), (45, 0), (47, 0), (49, 0), (51, 0), (125, 0), (29, 2), (31, 2), (33, 2), (35, 2), (37, 2), (39, 2), (41, 2), (43, 2), (45, 2), (47, 2), (49, 2), (51, 2), (127, 0), (1, 5), (115, 23)] h h' → Q (some (.int r)) h')) : xw J ov (d + 3) 190 (0, [(0, .ref 0), (1, .int x1)], [], h) Q := by
  have K : xk [(0, 9), (115, 1), (83, 0), (29, 0), (31, 0), (33, 0), (35, 0), (37, 0), (39, 0), (41, 0), (43, 0), (45, 0), (47, 0), (49, 0), (51, 0), (125, 0), (29, 2), (31, 2), (33, 2), (35, 2), (37, 2), (39, 2), (41, 2), (43, 2), (45, 2), (47, 2), (49, 2), (51, 2), (127, 0), (1, 5), (115, 23)] h h := xk_re T
  have rx1 := xc_rng x1
  refine xi_iload_n (pc' := 1) (x := x1) kc_190_0 rfl rfl ?_
  by_cases c1 : x1.toInt = 0
  · refine xi_tsi (pc' := 56) (z := 0) kc_190_1 (by omega) rfl (by decide) ?_
    refine xi_aload_n (pc' := 57) (x := 0) kc_190_56 rfl rfl ?_
    refine xp_0 K.1 (fun u2 u3 bu2 bu3 A4 => ?_)
    refine xi_getfield (pc' := 60) (v := .int u3) kc_190_57 rfl rfl rfl A4 rfl ?_
    refine xi_ireturn kc_190_60 mr_190 rfl ?_
    exact kk u3 h K
  by_cases c5 : x1.toInt = 1
  · refine xi_tsi (pc' := 61) (z := 1) kc_190_1 (by omega) rfl (by decide) ?_
    refine xi_aload_n (pc' := 62) (x := 0) kc_190_61 rfl rfl ?_
    refine xp_0 K.1 (fun u6 u7 bu6 bu7 A8 => ?_)
    refine xi_getfield (pc' := 65) (v := .ref 1) kc_190_62 rfl rfl rfl A8 rfl ?_
    refine xp_1 K.1 (fun u9 u10 bu9 bu10 A11 => ?_)
    refine xi_virtual (mj := 191) (as := []) (st1 := []) (lv0 := [(0, .ref 1)]) kc_190_65 rfl rfl rfl rfl rfl A11 (Nat.le_of_ble_eq_true rfl) (hJ _ _ _ _ (by decide)) (xm_le ml_191 rfl) rfl ?_
    refine mt_191_0 hJ hov1 hov2 (d := d)  K.1 (fun r12 hh13 K14 => ?_)
    have br12 := xc_rng r12
    have K15 := xk_tr K K14 rfl
    refine xp_0 K15.1 (fun u16 u17 bu16 bu17 A18 => ?_)
    have e19 : u7 = u17 := xk_eqi (q := 9) K14 rfl A8 A18 rfl rfl
    subst e19
    refine xp_1 K15.1 (fun u20 u21 bu20 bu21 A22 => ?_)
    have e23 : u9 = u20 := xk_eqi (q := 5) K14 rfl A11 A22 rfl rfl
    subst e23
    show xw J ov (d + 3) 190 (68, [(0, .ref 0), (1, .int x1)], [.int r12], hh13) _
    refine xi_ireturn kc_190_68 mr_190 rfl ?_
    exact kk r12 hh13 K15
  by_cases c24 : x1.toInt = 2
  · refine xi_tsi (pc' := 69) (z := 2) kc_190_1 (by omega) rfl (by decide) ?_
    refine xi_aload_n (pc' := 70) (x := 0) kc_190_69 rfl rfl ?_
    refine xp_0 K.1 (fun u25 u26 bu25 bu26 A27 => ?_)
    refine xi_getfield (pc' := 73) (v := .ref 66) kc_190_70 rfl rfl rfl A27 rfl ?_
    refine xp_66 K.1 (fun u29 wl28 bu29 A30 => ?_)
    refine xi_getfield (pc' := 76) (v := .int u29) kc_190_73 rfl rfl rfl A30 rfl ?_
    refine xi_ireturn kc_190_76 mr_190 rfl ?_
    exact kk u29 h K
  by_cases c31 : x1.toInt = 3
  · refine xi_tsi (pc' := 77) (z := 3) kc_190_1 (by omega) rfl (by decide) ?_
    refine xi_aload_n (pc' := 78) (x := 0) kc_190_77 rfl rfl ?_
    refine xp_0 K.1 (fun u32 u33 bu32 bu33 A34 => ?_)
    refine xi_getfield (pc' := 81) (v := .ref 1) kc_190_78 rfl rfl rfl A34 rfl ?_
    refine xp_1 K.1 (fun u35 u36 bu35 bu36 A37 => ?_)
    refine xi_getfield (pc' := 84) (v := .int u35) kc_190_81 rfl rfl rfl A37 rfl ?_
    refine xi_ireturn kc_190_84 mr_190 rfl ?_
    exact kk u35 h K
  by_cases c38 : x1.toInt = 4
  · refine xi_tsi (pc' := 85) (z := 4) kc_190_1 (by omega) rfl (by decide) ?_
    refine xi_aload_n (pc' := 86) (x := 0) kc_190_85 rfl rfl ?_
    refine xp_0 K.1 (fun u39 u40 bu39 bu40 A41 => ?_)
    refine xi_getfield (pc' := 89) (v := .ref 63) kc_190_86 rfl rfl rfl A41 rfl ?_
    refine xp_63 K.1 (fun u42 u43 bu42 bu43 A44 => ?_)
    refine xi_getfield (pc' := 92) (v := .int u42) kc_190_89 rfl rfl rfl A44 rfl ?_
    refine xi_static (mj := 4) (as := [.int u42]) (st1 := []) (lv0 := [(0, .int u42)]) kc_190_92 rfl rfl (Nat.le_of_ble_eq_true rfl) rfl rfl (Nat.le_of_ble_eq_true rfl) (hJ _ _ _ _ (by decide)) (xm_le ml_4 rfl) rfl ?_
    refine mt_4_0 hJ hov1 hov2 (d := d + 1) (x0 := u42) K.1 (fun r45 hh46 K47 => ?_)
    have br45 := xc_rng r45
    have K48 := xk_tr K K47 rfl
    refine xp_0 K48.1 (fun u49 u50 bu49 bu50 A51 => ?_)
    have e52 : u40 = u50 := xk_eqi (q := 9) K47 rfl A41 A51 rfl rfl
    subst e52
    show xw J ov (d + 3) 190 (95, [(0, .ref 0), (1, .int x1)], [.int r45], hh46) _
    refine xi_ireturn kc_190_95 mr_190 rfl ?_
    exact kk r45 hh46 K48
  by_cases c53 : x1.toInt = 5
  · refine xi_tsi (pc' := 96) (z := 5) kc_190_1 (by omega) rfl (by decide) ?_
    refine xi_aload_n (pc' := 97) (x := 0) kc_190_96 rfl rfl ?_
    refine xp_0 K.1 (fun u54 u55 bu54 bu55 A56 => ?_)
    refine xi_getfield (pc' := 100) (v := .ref 75) kc_190_97 rfl rfl rfl A56 rfl ?_
    refine xp_75 K.1 (fun u57 bu57 A58 => ?_)
    refine xi_getfield (pc' := 103) (v := .int u57) kc_190_100 rfl rfl rfl A58 rfl ?_
    refine xi_ireturn kc_190_103 mr_190 rfl ?_
    exact kk u57 h K
  by_cases c59 : x1.toInt = 6
  · refine xi_tsi (pc' := 104) (z := 6) kc_190_1 (by omega) rfl (by decide) ?_
    refine xi_aload_n (pc' := 105) (x := 0) kc_190_104 rfl rfl ?_
    refine xp_0 K.1 (fun u60 u61 bu60 bu61 A62 => ?_)
    refine xi_getfield (pc' := 108) (v := .ref 75) kc_190_105 rfl rfl rfl A62 rfl ?_
    refine xp_75 K.1 (fun u63 bu63 A64 => ?_)
    refine xi_virtual (mj := 192) (as := []) (st1 := []) (lv0 := [(0, .ref 75)]) kc_190_108 rfl rfl rfl rfl rfl A64 (Nat.le_of_ble_eq_true rfl) (hJ _ _ _ _ (by decide)) (xm_le ml_192 rfl) rfl ?_
    refine mt_192_0 hJ hov1 hov2 (d := d + 1)  K.1 (fun r65 hh66 K67 => ?_)
    have br65 := xc_rng r65
    have K68 := xk_tr K K67 rfl
    refine xp_0 K68.1 (fun u69 u70 bu69 bu70 A71 => ?_)
    have e72 : u61 = u70 := xk_eqi (q := 9) K67 rfl A62 A71 rfl rfl
    subst e72
    show xw J ov (d + 3) 190 (111, [(0, .ref 0), (1, .int x1)], [.int r65], hh66) _
    refine xi_ireturn kc_190_111 mr_190 rfl ?_
    exact kk r65 hh66 K68
  by_cases c73 : x1.toInt = 7
  · refine xi_tsi (pc' := 112) (z := 7) kc_190_1 (by omega) rfl (by decide) ?_
    refine xi_aload_n (pc' := 113) (x := 0) kc_190_112 rfl rfl ?_
    refine xp_0 K.1 (fun u74 u75 bu74 bu75 A76 => ?_)
    refine xi_getfield (pc' := 116) (v := .int u74) kc_190_113 rfl rfl rfl A76 rfl ?_
    refine xi_ireturn kc_190_116 mr_190 rfl ?_
    exact kk u74 h K
  by_cases c77 : x1.toInt = 8
  · refine xi_tsi (pc' := 117) (z := 8) kc_190_1 (by omega) rfl (by decide) ?_
    refine xi_aload_n (pc' := 118) (x := 0) kc_190_117 rfl rfl ?_
    refine xp_0 K.1 (fun u78 u79 bu78 bu79 A80 => ?_)
    refine xi_getfield (pc' := 121) (v := .ref 85) kc_190_118 rfl rfl rfl A80 rfl ?_
    refine xp_85 K.1 (fun u81 u82 bu81 bu82 A83 => ?_)
    refine xi_getfield (pc' := 124) (v := .int u82) kc_190_121 rfl rfl rfl A83 rfl ?_
    refine xi_ireturn kc_190_124 mr_190 rfl ?_
    exact kk u82 h K
  by_cases c84 : x1.toInt = 9
  · refine xi_tsi (pc' := 125) (z := 9) kc_190_1 (by omega) rfl (by decide) ?_
    refine xi_aload_n (pc' := 126) (x := 0) kc_190_125 rfl rfl ?_
    refine xp_0 K.1 (fun u85 u86 bu85 bu86 A87 => ?_)
    refine xi_getfield (pc' := 129) (v := .ref 80) kc_190_126 rfl rfl rfl A87 rfl ?_
    have A88 := xq_80 K.1
    refine xi_virtual (mj := 173) (as := []) (st1 := []) (lv0 := [(0, .ref 80)]) kc_190_129 rfl rfl rfl rfl rfl A88 (Nat.le_of_ble_eq_true rfl) (hJ _ _ _ _ (by decide)) (xm_le ml_173 rfl) rfl ?_
    refine mt_173_0 hJ hov1 hov2 (d := d + 1)  K.1 (fun r89 hh90 K91 => ?_)
    have br89 := xc_rng r89
    have K92 := xk_tr K K91 rfl
    refine xp_0 K92.1 (fun u93 u94 bu93 bu94 A95 => ?_)
    have e96 : u86 = u94 := xk_eqi (q := 9) K91 rfl A87 A95 rfl rfl
    subst e96
    show xw J ov (d + 3) 190 (132, [(0, .ref 0), (1, .int x1)], [.int r89], hh90) _
    refine xi_ireturn kc_190_132 mr_190 rfl ?_
    exact kk r89 hh90 K92
  refine xi_tsd (pc' := 133) kc_190_1 rfl (by omega) ?_
  refine xi_iload_n (pc' := 134) (x := x1) kc_190_133 rfl rfl ?_
  refine xi_bipush (pc' := 136) (v := 11) kc_190_134 rfl rfl ?_
  by_cases c97 : x1.toInt < 11
  · refine xi_cmt (pc' := 157) kc_190_136 rfl (xc_lt_t (X := x1.toInt) (Y := 11) rfl (by decide) (by omega)) ?_
    refine xi_bipush (pc' := 159) (v := (-9)) kc_190_157 rfl rfl ?_
    refine xi_ireturn kc_190_159 mr_190 rfl ?_
    have zcm9 : ((-9) : Int32).toInt = (-9) := by decide
    exact kk (-9) h K
  · refine xi_cmf (pc' := 139) kc_190_136 rfl (xc_lt_f (X := x1.toInt) (Y := 11) rfl (by decide) (by omega)) ?_
    refine xi_iload_n (pc' := 140) (x := x1) kc_190_139 rfl rfl ?_
    refine xi_bipush (pc' := 142) (v := 16) kc_190_140 rfl rfl ?_
    by_cases c98 : 16 < x1.toInt
    · refine xi_cmt (pc' := 157) kc_190_142 rfl (xc_gt_t (X := x1.toInt) (Y := 16) rfl (by decide) (by omega)) ?_
      refine xi_bipush (pc' := 159) (v := (-9)) kc_190_157 rfl rfl ?_
      refine xi_ireturn kc_190_159 mr_190 rfl ?_
      have zcm9 : ((-9) : Int32).toInt = (-9) := by decide
      exact kk (-9) h K
    · refine xi_cmf (pc' := 145) kc_190_142 rfl (xc_gt_f (X := x1.toInt) (Y := 16) rfl (by decide) (by omega)) ?_
      refine xi_aload_n (pc' := 146) (x := 0) kc_190_145 rfl rfl ?_
      refine xp_0 K.1 (fun u99 u100 bu99 bu100 A101 => ?_)
      refine xi_getfield (pc' := 149) (v := .ref 94) kc_190_146 rfl rfl rfl A101 rfl ?_
      refine xi_iload_n (pc' := 150) (x := x1) kc_190_149 rfl rfl ?_
      refine xi_bipush (pc' := 152) (v := 10) kc_190_150 rfl rfl ?_
      refine xcps2 (α := Int32) (x1 - 10) (fun v102 ev102 => ?_)
      have zv102 : v102.toInt = (x1.toInt + (-10)) := by rw [← ev102]; exact (xz_sub (X := x1.toInt) (Y := 10) rfl (by decide) (by omega) (by omega)).trans (by omega)
      refine xi_isub (pc' := 153) (v := v102) kc_190_152 rfl ev102 ?_
      refine xcps4 (xk_arr K.1 xD_94) (fun y103 A103 hy103 ry103 => ?_)
      refine xcps4 (xj_get hy103 ry103 (i := v102) (by rw [zv102]; omega) (by rw [zv102]; omega)) (fun v104 ev104 bv104 dv104 => ?_)
      refine xi_iaload (pc' := 154) (v := v104) kc_190_153 rfl A103 (by decide) rfl (xi_in (by rw [zv102]; omega) (by rw [hy103]; rw [zv102]; omega)) ev104 ?_
      refine xi_goto (pc' := 159) kc_190_154 rfl ?_
      refine xi_ireturn kc_190_159 mr_190 rfl ?_
      exact kk v104 h K
set_option maxHeartbeats 4000000 in
theorem mt_22_0 {J : xe_J} {ov : List (List Int32)} (hJ : ∀ d mj as h, mj ≠ xe_loff → J d mj as h = none) (hov1 : ov[1]? = some [10, 0, 0, 0, 0, 0]) (hov2 : ov[2]? = some [99, 30, 50, 50, 1, 99999]) {d : Nat} {Q : Option Value → xe_H → Prop} {h : xe_H} {x0 : Int32} (T : xt h) (kk : (∀ (r : Int32) (h' : xe_H), ((-53687087) ≤ r.toInt ∧ r.toInt ≤ 1127428920) → xk [(0, 9), (115, 1), (83, 0), (29, 0), (31, 0), (33, 0), (35, 0), (37, 0), (39, 0), (41, 0), (43, 0), (45, 0), (47, 0), (49, 0), (51, 0), (125, 0), (29, 2), (31, 2), (33, 2), (35, 2), (37, 2), (39, 2), (41, 2), (43, 2), (45, 2), (47, 2), (49, 2), (51, 2), (127, 0), (1, 5), (115, 23)] h h' → Q (some (.int r)) h')) : xw J ov (d + 1) 22 (0, [(0, .int x0)], [], h) Q := by
  have K : xk [(0, 9), (115, 1), (83, 0), (29, 0), (31, 0), (33, 0), (35, 0), (37, 0), (39, 0), (41, 0), (43, 0), (45, 0), (47, 0), (49, 0), (51, 0), (125, 0), (29, 2), (31, 2), (33, 2), (35, 2), (37, 2), (39, 2), (41, 2), (43, 2), (45, 2), (47, 2), (49, 2), (51, 2), (127, 0), (1, 5), (115, 23)] h h := xk_re T
  have rx0 := xc_rng x0
  refine xi_iload_n (pc' := 1) (x := x0) kc_22_0 rfl rfl ?_
  by_cases c1 : x0.toInt < 0
  · refine xi_ift (pc' := 17) kc_22_1 rfl (xc_lt_t (X := x0.toInt) (Y := 0) rfl (by decide) (by omega)) ?_
    refine xi_iconst (pc' := 18) (v := 5) kc_22_17 rfl rfl ?_
    refine xi_iload_n (pc' := 19) (x := x0) kc_22_18 rfl rfl ?_
    refine xcps2 (α := Int32) (-x0) (fun v2 ev2 => ?_)
    have rv2 := xc_rng v2
    refine xi_ineg (pc' := 20) (v := v2) kc_22_19 rfl ev2 ?_
    refine xi_iconst (pc' := 21) (v := 5) kc_22_20 rfl rfl ?_
    refine xcps2 (α := Int32) (v2 / 5) (fun v3 ev3 => ?_)
    have dv3 : 5 * v3.toInt ≤ v2.toInt + 4 ∧ v2.toInt ≤ 5 * v3.toInt + 4 := by rw [← ev3]; exact xz_div (X := v2.toInt) (Y := 5) rfl (by decide) (by decide)
    have bv3 : -429496730 ≤ v3.toInt ∧ v3.toInt ≤ 429496730 := by omega
    refine xi_idiv (pc' := 22) (v := v3) kc_22_21 rfl ev3 (by decide) ?_
    refine xcps2 (α := Int32) (5 - v3) (fun v4 ev4 => ?_)
    have zv4 : v4.toInt = ((-1) * v3.toInt + 5) := by rw [← ev4]; exact (xz_sub (X := 5) (Y := v3.toInt) (by decide) rfl (by omega) (by omega)).trans (by omega)
    refine xi_isub (pc' := 23) (v := v4) kc_22_22 rfl ev4 ?_
    refine xi_istore_n (pc' := 24) (lv' := [(1, .int v4), (0, .int x0)]) kc_22_23 rfl rfl (xm_lt ml_22 rfl) ?_
    refine xi_iload_n (pc' := 25) (x := v4) kc_22_24 rfl rfl ?_
    refine xi_iconst (pc' := 26) (v := 1) kc_22_25 rfl rfl ?_
    by_cases c5 : 1 ≤ ((-1) * v3.toInt + 5)
    · refine xi_cmt (pc' := 33) kc_22_26 rfl (xc_ge_t (X := ((-1) * v3.toInt + 5)) (Y := 1) zv4 (by decide) (by omega)) ?_
      refine xi_iload_n (pc' := 34) (x := v4) kc_22_33 rfl rfl ?_
      refine xi_ireturn kc_22_34 mr_22 rfl ?_
      exact kk v4 h (by omega) K
    · refine xi_cmf (pc' := 29) kc_22_26 rfl (xc_ge_f (X := ((-1) * v3.toInt + 5)) (Y := 1) zv4 (by decide) (by omega)) ?_
      refine xi_iconst (pc' := 30) (v := 1) kc_22_29 rfl rfl ?_
      refine xi_goto (pc' := 34) kc_22_30 rfl ?_
      refine xi_ireturn kc_22_34 mr_22 rfl ?_
      have zc1 : (1 : Int32).toInt = 1 := by decide
      exact kk 1 h (by omega) K
  · refine xi_iff (pc' := 4) kc_22_1 rfl (xc_lt_f (X := x0.toInt) (Y := 0) rfl (by decide) (by omega)) ?_
    refine xi_iconst (pc' := 5) (v := 5) kc_22_4 rfl rfl ?_
    refine xi_iload_n (pc' := 6) (x := x0) kc_22_5 rfl rfl ?_
    refine xi_iconst (pc' := 7) (v := 2) kc_22_6 rfl rfl ?_
    refine xcps2 (α := Int32) (x0 / 2) (fun v6 ev6 => ?_)
    have dv6 : v6.toInt = x0.toInt / 2 := by rw [← ev6]; exact xz_dive (X := x0.toInt) (Y := 2) rfl (by decide) (by omega) (by decide)
    have bv6 : 0 ≤ v6.toInt ∧ v6.toInt ≤ 1073741823 := by omega
    refine xi_idiv (pc' := 8) (v := v6) kc_22_7 rfl ev6 (by decide) ?_
    refine xcps2 (α := Int32) (5 + v6) (fun v7 ev7 => ?_)
    have zv7 : v7.toInt = (v6.toInt + 5) := by rw [← ev7]; exact (xz_add (X := 5) (Y := v6.toInt) (by decide) rfl (by omega) (by omega)).trans (by omega)
    refine xi_iadd (pc' := 9) (v := v7) kc_22_8 rfl ev7 ?_
    refine xi_iload_n (pc' := 10) (x := x0) kc_22_9 rfl rfl ?_
    refine xi_iload_n (pc' := 11) (x := x0) kc_22_10 rfl rfl ?_
    refine xcps2 (α := Int32) ((x0 : Int32) * x0) (fun v8 ev8 => ?_)
    have rv8 := xc_rng v8
    refine xi_imul (pc' := 12) (v := v8) kc_22_11 rfl ev8 ?_
    refine xi_bipush (pc' := 14) (v := 40) kc_22_12 rfl rfl ?_
    refine xcps2 (α := Int32) (v8 / 40) (fun v9 ev9 => ?_)
    have dv9 : 40 * v9.toInt ≤ v8.toInt + 39 ∧ v8.toInt ≤ 40 * v9.toInt + 39 := by rw [← ev9]; exact xz_div (X := v8.toInt) (Y := 40) rfl (by decide) (by decide)
    have bv9 : -53687092 ≤ v9.toInt ∧ v9.toInt ≤ 53687092 := by omega
    refine xi_idiv (pc' := 15) (v := v9) kc_22_14 rfl ev9 (by decide) ?_
    refine xcps2 (α := Int32) (v7 + v9) (fun v10 ev10 => ?_)
    have zv10 : v10.toInt = (v6.toInt + v9.toInt + 5) := by rw [← ev10]; exact (xz_add (X := (v6.toInt + 5)) (Y := v9.toInt) zv7 rfl (by omega) (by omega)).trans (by omega)
    refine xi_iadd (pc' := 16) (v := v10) kc_22_15 rfl ev10 ?_
    refine xi_ireturn kc_22_16 mr_22 rfl ?_
    exact kk v10 h (by omega) K
set_option maxHeartbeats 4000000 in
theorem mt_21_0 {J : xe_J} {ov : List (List Int32)} (hJ : ∀ d mj as h, mj ≠ xe_loff → J d mj as h = none) (hov1 : ov[1]? = some [10, 0, 0, 0, 0, 0]) (hov2 : ov[2]? = some [99, 30, 50, 50, 1, 99999]) {d : Nat} {Q : Option Value → xe_H → Prop} {h : xe_H} {x1 : Int32} (T : xt h) (kk : (∀ (r : Int32) (h' : xe_H), ((-53687087) ≤ r.toInt ∧ r.toInt ≤ 1127428920) → xk [(0, 9), (115, 1), (83, 0), (29, 0), (31, 0), (33, 0), (35, 0), (37, 0), (39, 0), (41, 0), (43, 0), (45, 0), (47, 0), (49, 0), (51, 0), (125, 0), (29, 2), (31, 2), (33, 2), (35, 2), (37, 2), (39, 2), (41, 2), (43, 2), (45, 2), (47, 2), (49, 2), (51, 2), (127, 0), (1, 5), (115, 23)] h h' → Q (some (.int r)) h')) : xw J ov (d + 2) 21 (0, [(0, .ref 115), (1, .int x1)], [], h) Q := by
  have K : xk [(0, 9), (115, 1), (83, 0), (29, 0), (31, 0), (33, 0), (35, 0), (37, 0), (39, 0), (41, 0), (43, 0), (45, 0), (47, 0), (49, 0), (51, 0), (125, 0), (29, 2), (31, 2), (33, 2), (35, 2), (37, 2), (39, 2), (41, 2), (43, 2), (45, 2), (47, 2), (49, 2), (51, 2), (127, 0), (1, 5), (115, 23)] h h := xk_re T
  have rx1 := xc_rng x1
  refine xi_aload_n (pc' := 1) (x := 115) kc_21_0 rfl rfl ?_
  refine xi_iconst (pc' := 2) (v := 0) kc_21_1 rfl rfl ?_
  refine xp_115 K.1 (fun u1 u2 u3 u4 u5 u6 u7 u8 u9 u10 u11 u12 u13 bu1 bu2 bu3 bu4 bu5 bu6 bu7 bu8 bu9 bu10 bu11 bu12 bu13 A14 => ?_)
  refine xi_putfield (pc' := 5) (fs' := [.int 0, .int u2, .ref 116, .ref 117, .ref 118, .ref 119, .ref 120, .ref 121, .ref 122, .ref 123, .ref 124, .ref 125, .ref 126, .ref 127, .ref 128, .ref 129, .int u3, .ref 130, .int u4, .ref 131, .ref 132, .ref 133, .ref 134, .int u5, .ref 135, .ref 136, .ref 137, .ref 138, .ref 139, .ref 140, .ref 141, .ref 142, .int u6, .int u7, .int u8, .ref 143, .ref 144, .ref 145, .ref 146, .ref 147, .ref 148, .int u9, .ref 149, .ref 150, .ref 151, .int u10, .ref 152, .ref 153, .ref 154, .ref 155, .ref 156, .ref 157, .ref 158, .ref 159, .int u11, .ref 160, .int u12, .ref 161, .ref 162, .ref 163, .ref 164, .int u13, .ref 165, .ref 166]) kc_21_2 rfl rfl rfl A14 rfl rfl rfl (Nat.le_of_ble_eq_true rfl) rfl (fun hh16 eh15 => ?_)
  have K17 := xk_pf (k := 0) (v := 0) K (xk_wf rfl) xD_115 A14 rfl (by first | omega | decide) (by first | omega | decide) eh15 rfl
  refine xi_iload_n (pc' := 6) (x := x1) kc_21_5 rfl rfl ?_
  refine xi_bipush (pc' := 8) (v := (-20)) kc_21_6 rfl rfl ?_
  by_cases c18 : (-20) ≤ x1.toInt
  · refine xi_cmt (pc' := 20) kc_21_8 rfl (xc_ge_t (X := x1.toInt) (Y := (-20)) rfl (by decide) (by omega)) ?_
    refine xi_iload_n (pc' := 21) (x := x1) kc_21_20 rfl rfl ?_
    refine xi_bipush (pc' := 23) (v := 30) kc_21_21 rfl rfl ?_
    by_cases c19 : x1.toInt ≤ 30
    · refine xi_cmt (pc' := 35) kc_21_23 rfl (xc_le_t (X := x1.toInt) (Y := 30) rfl (by decide) (by omega)) ?_
      refine xi_iload_n (pc' := 36) (x := x1) kc_21_35 rfl rfl ?_
      refine xi_static (mj := 22) (as := [.int x1]) (st1 := []) (lv0 := [(0, .int x1)]) kc_21_36 rfl rfl (Nat.le_of_ble_eq_true rfl) rfl rfl (Nat.le_of_ble_eq_true rfl) (hJ _ _ _ _ (by decide)) (xm_le ml_22 rfl) rfl ?_
      refine mt_22_0 hJ hov1 hov2 (d := d) (x0 := x1) K17.1 (fun r20 hh21 br20 K22 => ?_)
      have K23 := xk_tr K17 K22 rfl
      refine xp_115 K23.1 (fun u24 u25 u26 u27 u28 u29 u30 u31 u32 u33 u34 u35 u36 bu24 bu25 bu26 bu27 bu28 bu29 bu30 bu31 bu32 bu33 bu34 bu35 bu36 A37 => ?_)
      have e38 : u2 = u25 := xk_eqi (q := 1) K22 rfl eh15.1 A37 rfl rfl
      subst e38
      have e39 : u5 = u28 := xk_eqi (q := 23) K22 rfl eh15.1 A37 rfl rfl
      subst e39
      show xw J ov (d + 2) 21 (39, [(0, .ref 115), (1, .int x1)], [.int r20], hh21) _
      refine xi_ireturn kc_21_39 mr_21 rfl ?_
      exact kk r20 hh21 (by omega) K23
    · refine xi_cmf (pc' := 26) kc_21_23 rfl (xc_le_f (X := x1.toInt) (Y := 30) rfl (by decide) (by omega)) ?_
      refine xi_aload_n (pc' := 27) (x := 115) kc_21_26 rfl rfl ?_
      refine xi_bipush (pc' := 29) (v := (-6)) kc_21_27 rfl rfl ?_
      refine xi_virtual (mj := 12) (as := [.int (-6)]) (st1 := []) (lv0 := [(0, .ref 115), (1, .int (-6))]) kc_21_29 rfl rfl rfl rfl rfl eh15.1 (Nat.le_of_ble_eq_true rfl) (hJ _ _ _ _ (by decide)) (xm_le ml_12 rfl) rfl ?_
      refine xi_aload_n (pc' := 1) (x := 115) kc_12_0 rfl rfl ?_
      refine xi_getfield (pc' := 4) (v := .ref 140) kc_12_1 rfl rfl rfl eh15.1 rfl ?_
      refine xi_iload_n (pc' := 5) (x := (-6)) kc_12_4 rfl rfl ?_
      refine xi_ineg (pc' := 6) (v := 6) kc_12_5 rfl rfl ?_
      refine xi_dup2 (pc' := 7) kc_12_6 rfl ⟨rfl, rfl⟩ ?_
      refine xcps4 (xk_arr K17.1 xD_140) (fun y40 A40 hy40 ry40 => ?_)
      refine xcps4 (xj_get hy40 ry40 (i := 6) (by decide) (by decide)) (fun v41 ev41 bv41 dv41 => ?_)
      refine xi_iaload (pc' := 8) (v := v41) kc_12_7 rfl A40 (by decide) rfl (xi_in (by decide) (by rw [hy40]; decide)) ev41 ?_
      refine xi_iconst (pc' := 9) (v := 1) kc_12_8 rfl rfl ?_
      refine xcps2 (α := Int32) ((v41 : Int32) + 1) (fun v42 ev42 => ?_)
      have rv42 := xc_rng v42
      refine xi_iadd (pc' := 10) (v := v42) kc_12_9 rfl ev42 ?_
      refine xcps4 (xj_set (v := v42) hy40 ry40 6 (by first | omega | decide) (by first | omega | decide)) (fun y43 s43 hy43 ry43 => ?_)
      refine xi_iastore (pc' := 11) (x' := y43) kc_12_10 rfl A40 rfl (xi_in (by decide) (by rw [hy40]; decide)) s43 (fun hh43 eh43 => ?_)
      have K44 := xk_pa K17 (xk_wa rfl) xD_140 hy43 ry43 eh43
      refine xi_iload_n (pc' := 12) (x := (-6)) kc_12_11 rfl rfl ?_
      refine xi_ireturn kc_12_12 mr_12 rfl ?_
      show xw J ov (d + 2) 21 (32, [(0, .ref 115), (1, .int x1)], [.int (-6)], hh43) _
      refine xi_goto (pc' := 39) kc_21_32 rfl ?_
      refine xi_ireturn kc_21_39 mr_21 rfl ?_
      have zcm6 : ((-6) : Int32).toInt = (-6) := by decide
      exact kk (-6) hh43 (by omega) K44
  · refine xi_cmf (pc' := 11) kc_21_8 rfl (xc_ge_f (X := x1.toInt) (Y := (-20)) rfl (by decide) (by omega)) ?_
    refine xi_aload_n (pc' := 12) (x := 115) kc_21_11 rfl rfl ?_
    refine xi_bipush (pc' := 14) (v := (-4)) kc_21_12 rfl rfl ?_
    refine xi_virtual (mj := 12) (as := [.int (-4)]) (st1 := []) (lv0 := [(0, .ref 115), (1, .int (-4))]) kc_21_14 rfl rfl rfl rfl rfl eh15.1 (Nat.le_of_ble_eq_true rfl) (hJ _ _ _ _ (by decide)) (xm_le ml_12 rfl) rfl ?_
    refine xi_aload_n (pc' := 1) (x := 115) kc_12_0 rfl rfl ?_
    refine xi_getfield (pc' := 4) (v := .ref 140) kc_12_1 rfl rfl rfl eh15.1 rfl ?_
    refine xi_iload_n (pc' := 5) (x := (-4)) kc_12_4 rfl rfl ?_
    refine xi_ineg (pc' := 6) (v := 4) kc_12_5 rfl rfl ?_
    refine xi_dup2 (pc' := 7) kc_12_6 rfl ⟨rfl, rfl⟩ ?_
    refine xcps4 (xk_arr K17.1 xD_140) (fun y45 A45 hy45 ry45 => ?_)
    refine xcps4 (xj_get hy45 ry45 (i := 4) (by decide) (by decide)) (fun v46 ev46 bv46 dv46 => ?_)
    refine xi_iaload (pc' := 8) (v := v46) kc_12_7 rfl A45 (by decide) rfl (xi_in (by decide) (by rw [hy45]; decide)) ev46 ?_
    refine xi_iconst (pc' := 9) (v := 1) kc_12_8 rfl rfl ?_
    refine xcps2 (α := Int32) ((v46 : Int32) + 1) (fun v47 ev47 => ?_)
    have rv47 := xc_rng v47
    refine xi_iadd (pc' := 10) (v := v47) kc_12_9 rfl ev47 ?_
    refine xcps4 (xj_set (v := v47) hy45 ry45 4 (by first | omega | decide) (by first | omega | decide)) (fun y48 s48 hy48 ry48 => ?_)
    refine xi_iastore (pc' := 11) (x' := y48) kc_12_10 rfl A45 rfl (xi_in (by decide) (by rw [hy45]; decide)) s48 (fun hh48 eh48 => ?_)
    have K49 := xk_pa K17 (xk_wa rfl) xD_140 hy48 ry48 eh48
    refine xi_iload_n (pc' := 12) (x := (-4)) kc_12_11 rfl rfl ?_
    refine xi_ireturn kc_12_12 mr_12 rfl ?_
    show xw J ov (d + 2) 21 (17, [(0, .ref 115), (1, .int x1)], [.int (-4)], hh48) _
    refine xi_goto (pc' := 39) kc_21_17 rfl ?_
    refine xi_ireturn kc_21_39 mr_21 rfl ?_
    have zcm4 : ((-4) : Int32).toInt = (-4) := by decide
    exact kk (-4) hh48 (by omega) K49
set_option maxHeartbeats 4000000 in
theorem mt_23_0 {J : xe_J} {ov : List (List Int32)} (hJ : ∀ d mj as h, mj ≠ xe_loff → J d mj as h = none) (hov1 : ov[1]? = some [10, 0, 0, 0, 0, 0]) (hov2 : ov[2]? = some [99, 30, 50, 50, 1, 99999]) {d : Nat} {Q : Option Value → xe_H → Prop} {h : xe_H} {x1 : Int32} {x2 : Int32} {x3 : Int32} {x4 : Int32} (T : xt h) (b4 : (0 ≤ x4.toInt ∧ x4.toInt ≤ 1)) (kk : (∀ (r : Int32) (h' : xe_H), ((-6) ≤ r.toInt ∧ r.toInt ≤ 1) → xk [(0, 9), (115, 1), (83, 0), (29, 0), (31, 0), (33, 0), (35, 0), (37, 0), (39, 0), (41, 0), (43, 0), (45, 0), (47, 0), (49, 0), (51, 0), (29, 2), (31, 2), (33, 2), (35, 2), (37, 2), (39, 2), (41, 2), (43, 2), (45, 2), (47, 2), (49, 2), (51, 2), (1, 5), (115, 23)] h h' → Q (some (.int r)) h')) : xw J ov (d + 2) 23 (0, [(0, .ref 115), (1, .int x1), (2, .int x2), (3, .int x3), (4, .int x4)], [], h) Q := by
  have K : xk [(0, 9), (115, 1), (83, 0), (29, 0), (31, 0), (33, 0), (35, 0), (37, 0), (39, 0), (41, 0), (43, 0), (45, 0), (47, 0), (49, 0), (51, 0), (29, 2), (31, 2), (33, 2), (35, 2), (37, 2), (39, 2), (41, 2), (43, 2), (45, 2), (47, 2), (49, 2), (51, 2), (1, 5), (115, 23)] h h := xk_re T
  have rx1 := xc_rng x1
  have rx2 := xc_rng x2
  have rx3 := xc_rng x3
  refine xi_aload_n (pc' := 1) (x := 115) kc_23_0 rfl rfl ?_
  refine xi_iconst (pc' := 2) (v := 0) kc_23_1 rfl rfl ?_
  refine xp_115 K.1 (fun u1 u2 u3 u4 u5 u6 u7 u8 u9 u10 u11 u12 u13 bu1 bu2 bu3 bu4 bu5 bu6 bu7 bu8 bu9 bu10 bu11 bu12 bu13 A14 => ?_)
  refine xi_putfield (pc' := 5) (fs' := [.int 0, .int u2, .ref 116, .ref 117, .ref 118, .ref 119, .ref 120, .ref 121, .ref 122, .ref 123, .ref 124, .ref 125, .ref 126, .ref 127, .ref 128, .ref 129, .int u3, .ref 130, .int u4, .ref 131, .ref 132, .ref 133, .ref 134, .int u5, .ref 135, .ref 136, .ref 137, .ref 138, .ref 139, .ref 140, .ref 141, .ref 142, .int u6, .int u7, .int u8, .ref 143, .ref 144, .ref 145, .ref 146, .ref 147, .ref 148, .int u9, .ref 149, .ref 150, .ref 151, .int u10, .ref 152, .ref 153, .ref 154, .ref 155, .ref 156, .ref 157, .ref 158, .ref 159, .int u11, .ref 160, .int u12, .ref 161, .ref 162, .ref 163, .ref 164, .int u13, .ref 165, .ref 166]) kc_23_2 rfl rfl rfl A14 rfl rfl rfl (Nat.le_of_ble_eq_true rfl) rfl (fun hh16 eh15 => ?_)
  have K17 := xk_pf (k := 0) (v := 0) K (xk_wf rfl) xD_115 A14 rfl (by first | omega | decide) (by first | omega | decide) eh15 rfl
  refine xi_iload_n (pc' := 6) (x := x1) kc_23_5 rfl rfl ?_
  refine xi_static (mj := 24) (as := [.int x1]) (st1 := []) (lv0 := [(0, .int x1)]) kc_23_6 rfl rfl (Nat.le_of_ble_eq_true rfl) rfl rfl (Nat.le_of_ble_eq_true rfl) (hJ _ _ _ _ (by decide)) (xm_le ml_24 rfl) rfl ?_
  refine xi_iload_n (pc' := 1) (x := x1) kc_24_0 rfl rfl ?_
  refine xi_iconst (pc' := 2) (v := 0) kc_24_1 rfl rfl ?_
  refine xi_bipush (pc' := 4) (v := 11) kc_24_2 rfl rfl ?_
  refine xi_static (mj := 11) (as := [.int x1, .int 0, .int 11]) (st1 := []) (lv0 := [(0, .int x1), (1, .int 0), (2, .int 11)]) kc_24_4 rfl rfl (Nat.le_of_ble_eq_true rfl) rfl rfl (Nat.le_of_ble_eq_true rfl) (hJ _ _ _ _ (by decide)) (xm_le ml_11 rfl) rfl ?_
  refine xi_iload_n (pc' := 1) (x := x1) kc_11_0 rfl rfl ?_
  refine xi_iload_n (pc' := 2) (x := 0) kc_11_1 rfl rfl ?_
  by_cases c18 : x1.toInt < 0
  · refine xi_cmt (pc' := 14) kc_11_2 rfl (xc_lt_t (X := x1.toInt) (Y := 0) rfl (by decide) (by omega)) ?_
    refine xi_iconst (pc' := 15) (v := 0) kc_11_14 rfl rfl ?_
    refine xi_ireturn kc_11_15 mr_11 rfl ?_
    show xw J ov (d + 1) 24 (7, [(0, .int x1)], [.int 0], hh16) _
    refine xi_ireturn kc_24_7 mr_24 rfl ?_
    show xw J ov (d + 2) 23 (9, [(0, .ref 115), (1, .int x1), (2, .int x2), (3, .int x3), (4, .int x4)], [.int 0], hh16) _
    refine xi_ift (pc' := 19) kc_23_9 rfl rfl ?_
    refine xi_aload_n (pc' := 20) (x := 115) kc_23_19 rfl rfl ?_
    refine xi_iconst (pc' := 21) (v := (-1)) kc_23_20 rfl rfl ?_
    refine xi_virtual (mj := 12) (as := [.int (-1)]) (st1 := []) (lv0 := [(0, .ref 115), (1, .int (-1))]) kc_23_21 rfl rfl rfl rfl rfl eh15.1 (Nat.le_of_ble_eq_true rfl) (hJ _ _ _ _ (by decide)) (xm_le ml_12 rfl) rfl ?_
    refine xi_aload_n (pc' := 1) (x := 115) kc_12_0 rfl rfl ?_
    refine xi_getfield (pc' := 4) (v := .ref 140) kc_12_1 rfl rfl rfl eh15.1 rfl ?_
    refine xi_iload_n (pc' := 5) (x := (-1)) kc_12_4 rfl rfl ?_
    refine xi_ineg (pc' := 6) (v := 1) kc_12_5 rfl rfl ?_
    refine xi_dup2 (pc' := 7) kc_12_6 rfl ⟨rfl, rfl⟩ ?_
    refine xcps4 (xk_arr K17.1 xD_140) (fun y19 A19 hy19 ry19 => ?_)
    refine xcps4 (xj_get hy19 ry19 (i := 1) (by decide) (by decide)) (fun v20 ev20 bv20 dv20 => ?_)
    refine xi_iaload (pc' := 8) (v := v20) kc_12_7 rfl A19 (by decide) rfl (xi_in (by decide) (by rw [hy19]; decide)) ev20 ?_
    refine xi_iconst (pc' := 9) (v := 1) kc_12_8 rfl rfl ?_
    refine xcps2 (α := Int32) ((v20 : Int32) + 1) (fun v21 ev21 => ?_)
    have rv21 := xc_rng v21
    refine xi_iadd (pc' := 10) (v := v21) kc_12_9 rfl ev21 ?_
    refine xcps4 (xj_set (v := v21) hy19 ry19 1 (by first | omega | decide) (by first | omega | decide)) (fun y22 s22 hy22 ry22 => ?_)
    refine xi_iastore (pc' := 11) (x' := y22) kc_12_10 rfl A19 rfl (xi_in (by decide) (by rw [hy19]; decide)) s22 (fun hh22 eh22 => ?_)
    have K23 := xk_pa K17 (xk_wa rfl) xD_140 hy22 ry22 eh22
    refine xi_iload_n (pc' := 12) (x := (-1)) kc_12_11 rfl rfl ?_
    refine xi_ireturn kc_12_12 mr_12 rfl ?_
    show xw J ov (d + 2) 23 (24, [(0, .ref 115), (1, .int x1), (2, .int x2), (3, .int x3), (4, .int x4)], [.int (-1)], hh22) _
    refine xi_ireturn kc_23_24 mr_23 rfl ?_
    have zcm1 : ((-1) : Int32).toInt = (-1) := by decide
    exact kk (-1) hh22 (by omega) K23
  · refine xi_cmf (pc' := 5) kc_11_2 rfl (xc_lt_f (X := x1.toInt) (Y := 0) rfl (by decide) (by omega)) ?_
    refine xi_iload_n (pc' := 6) (x := x1) kc_11_5 rfl rfl ?_
    refine xi_iload_n (pc' := 7) (x := 11) kc_11_6 rfl rfl ?_
    by_cases c24 : 11 < x1.toInt
    · refine xi_cmt (pc' := 14) kc_11_7 rfl (xc_gt_t (X := x1.toInt) (Y := 11) rfl (by decide) (by omega)) ?_
      refine xi_iconst (pc' := 15) (v := 0) kc_11_14 rfl rfl ?_
      refine xi_ireturn kc_11_15 mr_11 rfl ?_
      show xw J ov (d + 1) 24 (7, [(0, .int x1)], [.int 0], hh16) _
      refine xi_ireturn kc_24_7 mr_24 rfl ?_
      show xw J ov (d + 2) 23 (9, [(0, .ref 115), (1, .int x1), (2, .int x2), (3, .int x3), (4, .int x4)], [.int 0], hh16) _
      refine xi_ift (pc' := 19) kc_23_9 rfl rfl ?_
      refine xi_aload_n (pc' := 20) (x := 115) kc_23_19 rfl rfl ?_
      refine xi_iconst (pc' := 21) (v := (-1)) kc_23_20 rfl rfl ?_
      refine xi_virtual (mj := 12) (as := [.int (-1)]) (st1 := []) (lv0 := [(0, .ref 115), (1, .int (-1))]) kc_23_21 rfl rfl rfl rfl rfl eh15.1 (Nat.le_of_ble_eq_true rfl) (hJ _ _ _ _ (by decide)) (xm_le ml_12 rfl) rfl ?_
      refine xi_aload_n (pc' := 1) (x := 115) kc_12_0 rfl rfl ?_
      refine xi_getfield (pc' := 4) (v := .ref 140) kc_12_1 rfl rfl rfl eh15.1 rfl ?_
      refine xi_iload_n (pc' := 5) (x := (-1)) kc_12_4 rfl rfl ?_
      refine xi_ineg (pc' := 6) (v := 1) kc_12_5 rfl rfl ?_
      refine xi_dup2 (pc' := 7) kc_12_6 rfl ⟨rfl, rfl⟩ ?_
      refine xcps4 (xk_arr K17.1 xD_140) (fun y25 A25 hy25 ry25 => ?_)
      refine xcps4 (xj_get hy25 ry25 (i := 1) (by decide) (by decide)) (fun v26 ev26 bv26 dv26 => ?_)
      refine xi_iaload (pc' := 8) (v := v26) kc_12_7 rfl A25 (by decide) rfl (xi_in (by decide) (by rw [hy25]; decide)) ev26 ?_
      refine xi_iconst (pc' := 9) (v := 1) kc_12_8 rfl rfl ?_
      refine xcps2 (α := Int32) ((v26 : Int32) + 1) (fun v27 ev27 => ?_)
      have rv27 := xc_rng v27
      refine xi_iadd (pc' := 10) (v := v27) kc_12_9 rfl ev27 ?_
      refine xcps4 (xj_set (v := v27) hy25 ry25 1 (by first | omega | decide) (by first | omega | decide)) (fun y28 s28 hy28 ry28 => ?_)
      refine xi_iastore (pc' := 11) (x' := y28) kc_12_10 rfl A25 rfl (xi_in (by decide) (by rw [hy25]; decide)) s28 (fun hh28 eh28 => ?_)
      have K29 := xk_pa K17 (xk_wa rfl) xD_140 hy28 ry28 eh28
      refine xi_iload_n (pc' := 12) (x := (-1)) kc_12_11 rfl rfl ?_
      refine xi_ireturn kc_12_12 mr_12 rfl ?_
      show xw J ov (d + 2) 23 (24, [(0, .ref 115), (1, .int x1), (2, .int x2), (3, .int x3), (4, .int x4)], [.int (-1)], hh28) _
      refine xi_ireturn kc_23_24 mr_23 rfl ?_
      have zcm1 : ((-1) : Int32).toInt = (-1) := by decide
      exact kk (-1) hh28 (by omega) K29
    · refine xi_cmf (pc' := 10) kc_11_7 rfl (xc_gt_f (X := x1.toInt) (Y := 11) rfl (by decide) (by omega)) ?_
      refine xi_iconst (pc' := 11) (v := 1) kc_11_10 rfl rfl ?_
      refine xi_goto (pc' := 15) kc_11_11 rfl ?_
      refine xi_ireturn kc_11_15 mr_11 rfl ?_
      show xw J ov (d + 1) 24 (7, [(0, .int x1)], [.int 1], hh16) _
      refine xi_ireturn kc_24_7 mr_24 rfl ?_
      show xw J ov (d + 2) 23 (9, [(0, .ref 115), (1, .int x1), (2, .int x2), (3, .int x3), (4, .int x4)], [.int 1], hh16) _
      refine xi_iff (pc' := 12) kc_23_9 rfl rfl ?_
      refine xi_iload_n (pc' := 13) (x := x2) kc_23_12 rfl rfl ?_
      refine xi_static (mj := 10) (as := [.int x2]) (st1 := []) (lv0 := [(0, .int x2)]) kc_23_13 rfl rfl (Nat.le_of_ble_eq_true rfl) rfl rfl (Nat.le_of_ble_eq_true rfl) (hJ _ _ _ _ (by decide)) (xm_le ml_10 rfl) rfl ?_
      refine xi_iload_n (pc' := 1) (x := x2) kc_10_0 rfl rfl ?_
      refine xi_iconst (pc' := 2) (v := 0) kc_10_1 rfl rfl ?_
      refine xi_iconst (pc' := 3) (v := 5) kc_10_2 rfl rfl ?_
      refine xi_static (mj := 11) (as := [.int x2, .int 0, .int 5]) (st1 := []) (lv0 := [(0, .int x2), (1, .int 0), (2, .int 5)]) kc_10_3 rfl rfl (Nat.le_of_ble_eq_true rfl) rfl rfl (Nat.le_of_ble_eq_true rfl) (hJ _ _ _ _ (by decide)) (xm_le ml_11 rfl) rfl ?_
      refine xi_iload_n (pc' := 1) (x := x2) kc_11_0 rfl rfl ?_
      refine xi_iload_n (pc' := 2) (x := 0) kc_11_1 rfl rfl ?_
      by_cases c30 : x2.toInt < 0
      · refine xi_cmt (pc' := 14) kc_11_2 rfl (xc_lt_t (X := x2.toInt) (Y := 0) rfl (by decide) (by omega)) ?_
        refine xi_iconst (pc' := 15) (v := 0) kc_11_14 rfl rfl ?_
        refine xi_ireturn kc_11_15 mr_11 rfl ?_
        show xw J ov (d + 1) 10 (6, [(0, .int x2)], [.int 0], hh16) _
        refine xi_ireturn kc_10_6 mr_10 rfl ?_
        show xw J ov (d + 2) 23 (16, [(0, .ref 115), (1, .int x1), (2, .int x2), (3, .int x3), (4, .int x4)], [.int 0], hh16) _
        refine xi_iff (pc' := 19) kc_23_16 rfl rfl ?_
        refine xi_aload_n (pc' := 20) (x := 115) kc_23_19 rfl rfl ?_
        refine xi_iconst (pc' := 21) (v := (-1)) kc_23_20 rfl rfl ?_
        refine xi_virtual (mj := 12) (as := [.int (-1)]) (st1 := []) (lv0 := [(0, .ref 115), (1, .int (-1))]) kc_23_21 rfl rfl rfl rfl rfl eh15.1 (Nat.le_of_ble_eq_true rfl) (hJ _ _ _ _ (by decide)) (xm_le ml_12 rfl) rfl ?_
        refine xi_aload_n (pc' := 1) (x := 115) kc_12_0 rfl rfl ?_
        refine xi_getfield (pc' := 4) (v := .ref 140) kc_12_1 rfl rfl rfl eh15.1 rfl ?_
        refine xi_iload_n (pc' := 5) (x := (-1)) kc_12_4 rfl rfl ?_
        refine xi_ineg (pc' := 6) (v := 1) kc_12_5 rfl rfl ?_
        refine xi_dup2 (pc' := 7) kc_12_6 rfl ⟨rfl, rfl⟩ ?_
        refine xcps4 (xk_arr K17.1 xD_140) (fun y31 A31 hy31 ry31 => ?_)
        refine xcps4 (xj_get hy31 ry31 (i := 1) (by decide) (by decide)) (fun v32 ev32 bv32 dv32 => ?_)
        refine xi_iaload (pc' := 8) (v := v32) kc_12_7 rfl A31 (by decide) rfl (xi_in (by decide) (by rw [hy31]; decide)) ev32 ?_
        refine xi_iconst (pc' := 9) (v := 1) kc_12_8 rfl rfl ?_
        refine xcps2 (α := Int32) ((v32 : Int32) + 1) (fun v33 ev33 => ?_)
        have rv33 := xc_rng v33
        refine xi_iadd (pc' := 10) (v := v33) kc_12_9 rfl ev33 ?_
        refine xcps4 (xj_set (v := v33) hy31 ry31 1 (by first | omega | decide) (by first | omega | decide)) (fun y34 s34 hy34 ry34 => ?_)
        refine xi_iastore (pc' := 11) (x' := y34) kc_12_10 rfl A31 rfl (xi_in (by decide) (by rw [hy31]; decide)) s34 (fun hh34 eh34 => ?_)
        have K35 := xk_pa K17 (xk_wa rfl) xD_140 hy34 ry34 eh34
        refine xi_iload_n (pc' := 12) (x := (-1)) kc_12_11 rfl rfl ?_
        refine xi_ireturn kc_12_12 mr_12 rfl ?_
        show xw J ov (d + 2) 23 (24, [(0, .ref 115), (1, .int x1), (2, .int x2), (3, .int x3), (4, .int x4)], [.int (-1)], hh34) _
        refine xi_ireturn kc_23_24 mr_23 rfl ?_
        have zcm1 : ((-1) : Int32).toInt = (-1) := by decide
        exact kk (-1) hh34 (by omega) K35
      · refine xi_cmf (pc' := 5) kc_11_2 rfl (xc_lt_f (X := x2.toInt) (Y := 0) rfl (by decide) (by omega)) ?_
        refine xi_iload_n (pc' := 6) (x := x2) kc_11_5 rfl rfl ?_
        refine xi_iload_n (pc' := 7) (x := 5) kc_11_6 rfl rfl ?_
        by_cases c36 : 5 < x2.toInt
        · refine xi_cmt (pc' := 14) kc_11_7 rfl (xc_gt_t (X := x2.toInt) (Y := 5) rfl (by decide) (by omega)) ?_
          refine xi_iconst (pc' := 15) (v := 0) kc_11_14 rfl rfl ?_
          refine xi_ireturn kc_11_15 mr_11 rfl ?_
          show xw J ov (d + 1) 10 (6, [(0, .int x2)], [.int 0], hh16) _
          refine xi_ireturn kc_10_6 mr_10 rfl ?_
          show xw J ov (d + 2) 23 (16, [(0, .ref 115), (1, .int x1), (2, .int x2), (3, .int x3), (4, .int x4)], [.int 0], hh16) _
          refine xi_iff (pc' := 19) kc_23_16 rfl rfl ?_
          refine xi_aload_n (pc' := 20) (x := 115) kc_23_19 rfl rfl ?_
          refine xi_iconst (pc' := 21) (v := (-1)) kc_23_20 rfl rfl ?_
          refine xi_virtual (mj := 12) (as := [.int (-1)]) (st1 := []) (lv0 := [(0, .ref 115), (1, .int (-1))]) kc_23_21 rfl rfl rfl rfl rfl eh15.1 (Nat.le_of_ble_eq_true rfl) (hJ _ _ _ _ (by decide)) (xm_le ml_12 rfl) rfl ?_
          refine xi_aload_n (pc' := 1) (x := 115) kc_12_0 rfl rfl ?_
          refine xi_getfield (pc' := 4) (v := .ref 140) kc_12_1 rfl rfl rfl eh15.1 rfl ?_
          refine xi_iload_n (pc' := 5) (x := (-1)) kc_12_4 rfl rfl ?_
          refine xi_ineg (pc' := 6) (v := 1) kc_12_5 rfl rfl ?_
          refine xi_dup2 (pc' := 7) kc_12_6 rfl ⟨rfl, rfl⟩ ?_
          refine xcps4 (xk_arr K17.1 xD_140) (fun y37 A37 hy37 ry37 => ?_)
          refine xcps4 (xj_get hy37 ry37 (i := 1) (by decide) (by decide)) (fun v38 ev38 bv38 dv38 => ?_)
          refine xi_iaload (pc' := 8) (v := v38) kc_12_7 rfl A37 (by decide) rfl (xi_in (by decide) (by rw [hy37]; decide)) ev38 ?_
          refine xi_iconst (pc' := 9) (v := 1) kc_12_8 rfl rfl ?_
          refine xcps2 (α := Int32) ((v38 : Int32) + 1) (fun v39 ev39 => ?_)
          have rv39 := xc_rng v39
          refine xi_iadd (pc' := 10) (v := v39) kc_12_9 rfl ev39 ?_
          refine xcps4 (xj_set (v := v39) hy37 ry37 1 (by first | omega | decide) (by first | omega | decide)) (fun y40 s40 hy40 ry40 => ?_)
          refine xi_iastore (pc' := 11) (x' := y40) kc_12_10 rfl A37 rfl (xi_in (by decide) (by rw [hy37]; decide)) s40 (fun hh40 eh40 => ?_)
          have K41 := xk_pa K17 (xk_wa rfl) xD_140 hy40 ry40 eh40
          refine xi_iload_n (pc' := 12) (x := (-1)) kc_12_11 rfl rfl ?_
          refine xi_ireturn kc_12_12 mr_12 rfl ?_
          show xw J ov (d + 2) 23 (24, [(0, .ref 115), (1, .int x1), (2, .int x2), (3, .int x3), (4, .int x4)], [.int (-1)], hh40) _
          refine xi_ireturn kc_23_24 mr_23 rfl ?_
          have zcm1 : ((-1) : Int32).toInt = (-1) := by decide
          exact kk (-1) hh40 (by omega) K41
        · refine xi_cmf (pc' := 10) kc_11_7 rfl (xc_gt_f (X := x2.toInt) (Y := 5) rfl (by decide) (by omega)) ?_
          refine xi_iconst (pc' := 11) (v := 1) kc_11_10 rfl rfl ?_
          refine xi_goto (pc' := 15) kc_11_11 rfl ?_
          refine xi_ireturn kc_11_15 mr_11 rfl ?_
          show xw J ov (d + 1) 10 (6, [(0, .int x2)], [.int 1], hh16) _
          refine xi_ireturn kc_10_6 mr_10 rfl ?_
          show xw J ov (d + 2) 23 (16, [(0, .ref 115), (1, .int x1), (2, .int x2), (3, .int x3), (4, .int x4)], [.int 1], hh16) _
          refine xi_ift (pc' := 25) kc_23_16 rfl rfl ?_
          refine xi_iload_n (pc' := 26) (x := x3) kc_23_25 rfl rfl ?_
          by_cases c42 : 0 ≤ x3.toInt
          · refine xi_ift (pc' := 36) kc_23_26 rfl (xc_ge_t (X := x3.toInt) (Y := 0) rfl (by decide) (by omega)) ?_
            refine xi_iload_n (pc' := 37) (x := x3) kc_23_36 rfl rfl ?_
            refine xi_bipush (pc' := 39) (v := 100) kc_23_37 rfl rfl ?_
            by_cases c43 : x3.toInt ≤ 100
            · refine xi_cmt (pc' := 49) kc_23_39 rfl (xc_le_t (X := x3.toInt) (Y := 100) rfl (by decide) (by omega)) ?_
              refine xi_aload_n (pc' := 50) (x := 115) kc_23_49 rfl rfl ?_
              refine xi_getfield (pc' := 53) (v := .ref 125) kc_23_50 rfl rfl rfl eh15.1 rfl ?_
              refine xi_iload_n (pc' := 54) (x := x1) kc_23_53 rfl rfl ?_
              refine xcps4 (xk_arr K17.1 xD_125) (fun y44 A44 hy44 ry44 => ?_)
              refine xcps4 (xj_get hy44 ry44 (i := x1) (by omega) (by omega)) (fun v45 ev45 bv45 dv45 => ?_)
              refine xi_iaload (pc' := 55) (v := v45) kc_23_54 rfl A44 (by decide) rfl (xi_in (by omega) (by rw [hy44]; omega)) ev45 ?_
              by_cases c46 : v45.toInt < 0
              · refine xi_ift (pc' := 62) kc_23_55 rfl (xc_lt_t (X := v45.toInt) (Y := 0) rfl (by decide) (by omega)) ?_
                refine xi_iconst (pc' := 63) (v := 0) kc_23_62 rfl rfl ?_
                refine xi_istore (pc' := 65) (lv' := [(5, .int 0), (0, .ref 115), (1, .int x1), (2, .int x2), (3, .int x3), (4, .int x4)]) kc_23_63 rfl rfl (xm_lt ml_23 rfl) ?_
                refine xi_aload_n (pc' := 66) (x := 115) kc_23_65 rfl rfl ?_
                refine xi_getfield (pc' := 69) (v := .ref 125) kc_23_66 rfl rfl rfl eh15.1 rfl ?_
                refine xi_iload_n (pc' := 70) (x := x1) kc_23_69 rfl rfl ?_
                refine xi_iload_n (pc' := 71) (x := x2) kc_23_70 rfl rfl ?_
                refine xcps4 (xj_set (v := x2) hy44 ry44 x1 (by first | omega | decide) (by first | omega | decide)) (fun y47 s47 hy47 ry47 => ?_)
                refine xi_iastore (pc' := 72) (x' := y47) kc_23_71 rfl A44 rfl (xi_in (by omega) (by rw [hy44]; omega)) s47 (fun hh47 eh47 => ?_)
                have K48 := xk_pa K17 (xk_wa rfl) xD_125 hy47 ry47 eh47
                refine xi_aload_n (pc' := 73) (x := 115) kc_23_72 rfl rfl ?_
                have A49 := ((eh47.2.1 115 (by decide)).trans eh15.1)
                refine xi_getfield (pc' := 76) (v := .ref 126) kc_23_73 rfl rfl rfl A49 rfl ?_
                refine xi_iload_n (pc' := 77) (x := x1) kc_23_76 rfl rfl ?_
                refine xi_iload_n (pc' := 78) (x := x3) kc_23_77 rfl rfl ?_
                refine xcps4 (xk_arr K48.1 xD_126) (fun y50 A50 hy50 ry50 => ?_)
                refine xcps4 (xj_set (v := x3) hy50 ry50 x1 (by first | omega | decide) (by first | omega | decide)) (fun y51 s51 hy51 ry51 => ?_)
                refine xi_iastore (pc' := 79) (x' := y51) kc_23_78 rfl A50 rfl (xi_in (by omega) (by rw [hy50]; omega)) s51 (fun hh51 eh51 => ?_)
                have K52 := xk_pa K48 (xk_wa rfl) xD_126 hy51 ry51 eh51
                refine xi_aload_n (pc' := 80) (x := 115) kc_23_79 rfl rfl ?_
                have A53 := ((eh51.2.1 115 (by decide)).trans A49)
                refine xi_getfield (pc' := 83) (v := .ref 127) kc_23_80 rfl rfl rfl A53 rfl ?_
                refine xi_iload_n (pc' := 84) (x := x1) kc_23_83 rfl rfl ?_
                refine xi_iload (pc' := 86) (x := x4) kc_23_84 rfl rfl ?_
                refine xcps4 (xk_arr K52.1 xD_127) (fun y54 A54 hy54 ry54 => ?_)
                by_cases c55 : x4.toInt = 0
                · have qx4 : x4 = 0 := xc_of (Eq.trans (by omega) (show (0 : Int) = (0 : Int32).toInt by decide))
                  subst qx4
                  refine xcps4 (xj_set (v := 0) hy54 ry54 x1 (by first | omega | decide) (by first | omega | decide)) (fun y56 s56 hy56 ry56 => ?_)
                  refine xi_bastore (pc' := 87) (x' := y56) kc_23_86 rfl A54 rfl (xi_in (by omega) (by rw [hy54]; omega)) s56 (fun hh56 eh56 => ?_)
                  have K57 := xk_pa K52 (xk_wa rfl) xD_127 hy56 ry56 eh56
                  refine xi_aload_n (pc' := 88) (x := 115) kc_23_87 rfl rfl ?_
                  refine xi_iconst (pc' := 89) (v := 0) kc_23_88 rfl rfl ?_
                  have A58 := ((eh56.2.1 115 (by decide)).trans A53)
                  refine xi_putfield (pc' := 92) (fs' := [.int 0, .int u2, .ref 116, .ref 117, .ref 118, .ref 119, .ref 120, .ref 121, .ref 122, .ref 123, .ref 124, .ref 125, .ref 126, .ref 127, .ref 128, .ref 129, .int u3, .ref 130, .int u4, .ref 131, .ref 132, .ref 133, .ref 134, .int u5, .ref 135, .ref 136, .ref 137, .ref 138, .ref 139, .ref 140, .ref 141, .ref 142, .int u6, .int u7, .int u8, .ref 143, .ref 144, .ref 145, .ref 146, .ref 147, .ref 148, .int 0, .ref 149, .ref 150, .ref 151, .int u10, .ref 152, .ref 153, .ref 154, .ref 155, .ref 156, .ref 157, .ref 158, .ref 159, .int u11, .ref 160, .int u12, .ref 161, .ref 162, .ref 163, .ref 164, .int u13, .ref 165, .ref 166]) kc_23_89 rfl rfl rfl A58 rfl rfl rfl (Nat.le_of_ble_eq_true rfl) rfl (fun hh60 eh59 => ?_)
                  have K61 := xk_pf (k := 41) (v := 0) K57 (xk_wf rfl) xD_115 A58 rfl (by first | omega | decide) (by first | omega | decide) eh59 rfl
                  refine xi_iload (pc' := 94) (x := 0) kc_23_92 rfl rfl ?_
                  refine xi_ift (pc' := 101) kc_23_94 rfl rfl ?_
                  refine xi_iconst (pc' := 102) (v := 1) kc_23_101 rfl rfl ?_
                  refine xi_ireturn kc_23_102 mr_23 rfl ?_
                  have zc1 : (1 : Int32).toInt = 1 := by decide
                  exact kk 1 hh60 (by omega) K61
                have qx4 : x4 = 1 := xc_of (Eq.trans (by omega) (show (1 : Int) = (1 : Int32).toInt by decide))
                subst qx4
                refine xcps4 (xj_set (v := 1) hy54 ry54 x1 (by first | omega | decide) (by first | omega | decide)) (fun y62 s62 hy62 ry62 => ?_)
                refine xi_bastore (pc' := 87) (x' := y62) kc_23_86 rfl A54 rfl (xi_in (by omega) (by rw [hy54]; omega)) s62 (fun hh62 eh62 => ?_)
                have K63 := xk_pa K52 (xk_wa rfl) xD_127 hy62 ry62 eh62
                refine xi_aload_n (pc' := 88) (x := 115) kc_23_87 rfl rfl ?_
                refine xi_iconst (pc' := 89) (v := 0) kc_23_88 rfl rfl ?_
                have A64 := ((eh62.2.1 115 (by decide)).trans A53)
                refine xi_putfield (pc' := 92) (fs' := [.int 0, .int u2, .ref 116, .ref 117, .ref 118, .ref 119, .ref 120, .ref 121, .ref 122, .ref 123, .ref 124, .ref 125, .ref 126, .ref 127, .ref 128, .ref 129, .int u3, .ref 130, .int u4, .ref 131, .ref 132, .ref 133, .ref 134, .int u5, .ref 135, .ref 136, .ref 137, .ref 138, .ref 139, .ref 140, .ref 141, .ref 142, .int u6, .int u7, .int u8, .ref 143, .ref 144, .ref 145, .ref 146, .ref 147, .ref 148, .int 0, .ref 149, .ref 150, .ref 151, .int u10, .ref 152, .ref 153, .ref 154, .ref 155, .ref 156, .ref 157, .ref 158, .ref 159, .int u11, .ref 160, .int u12, .ref 161, .ref 162, .ref 163, .ref 164, .int u13, .ref 165, .ref 166]) kc_23_89 rfl rfl rfl A64 rfl rfl rfl (Nat.le_of_ble_eq_true rfl) rfl (fun hh66 eh65 => ?_)
                have K67 := xk_pf (k := 41) (v := 0) K63 (xk_wf rfl) xD_115 A64 rfl (by first | omega | decide) (by first | omega | decide) eh65 rfl
                refine xi_iload (pc' := 94) (x := 0) kc_23_92 rfl rfl ?_
                refine xi_ift (pc' := 101) kc_23_94 rfl rfl ?_
                refine xi_iconst (pc' := 102) (v := 1) kc_23_101 rfl rfl ?_
                refine xi_ireturn kc_23_102 mr_23 rfl ?_
                have zc1 : (1 : Int32).toInt = 1 := by decide
                exact kk 1 hh66 (by omega) K67
              · refine xi_iff (pc' := 58) kc_23_55 rfl (xc_lt_f (X := v45.toInt) (Y := 0) rfl (by decide) (by omega)) ?_
                refine xi_iconst (pc' := 59) (v := 1) kc_23_58 rfl rfl ?_
                refine xi_goto (pc' := 63) kc_23_59 rfl ?_
                refine xi_istore (pc' := 65) (lv' := [(5, .int 1), (0, .ref 115), (1, .int x1), (2, .int x2), (3, .int x3), (4, .int x4)]) kc_23_63 rfl rfl (xm_lt ml_23 rfl) ?_
                refine xi_aload_n (pc' := 66) (x := 115) kc_23_65 rfl rfl ?_
                refine xi_getfield (pc' := 69) (v := .ref 125) kc_23_66 rfl rfl rfl eh15.1 rfl ?_
                refine xi_iload_n (pc' := 70) (x := x1) kc_23_69 rfl rfl ?_
                refine xi_iload_n (pc' := 71) (x := x2) kc_23_70 rfl rfl ?_
                refine xcps4 (xj_set (v := x2) hy44 ry44 x1 (by first | omega | decide) (by first | omega | decide)) (fun y68 s68 hy68 ry68 => ?_)
                refine xi_iastore (pc' := 72) (x' := y68) kc_23_71 rfl A44 rfl (xi_in (by omega) (by rw [hy44]; omega)) s68 (fun hh68 eh68 => ?_)
                have K69 := xk_pa K17 (xk_wa rfl) xD_125 hy68 ry68 eh68
                refine xi_aload_n (pc' := 73) (x := 115) kc_23_72 rfl rfl ?_
                have A70 := ((eh68.2.1 115 (by decide)).trans eh15.1)
                refine xi_getfield (pc' := 76) (v := .ref 126) kc_23_73 rfl rfl rfl A70 rfl ?_
                refine xi_iload_n (pc' := 77) (x := x1) kc_23_76 rfl rfl ?_
                refine xi_iload_n (pc' := 78) (x := x3) kc_23_77 rfl rfl ?_
                refine xcps4 (xk_arr K69.1 xD_126) (fun y71 A71 hy71 ry71 => ?_)
                refine xcps4 (xj_set (v := x3) hy71 ry71 x1 (by first | omega | decide) (by first | omega | decide)) (fun y72 s72 hy72 ry72 => ?_)
                refine xi_iastore (pc' := 79) (x' := y72) kc_23_78 rfl A71 rfl (xi_in (by omega) (by rw [hy71]; omega)) s72 (fun hh72 eh72 => ?_)
                have K73 := xk_pa K69 (xk_wa rfl) xD_126 hy72 ry72 eh72
                refine xi_aload_n (pc' := 80) (x := 115) kc_23_79 rfl rfl ?_
                have A74 := ((eh72.2.1 115 (by decide)).trans A70)
                refine xi_getfield (pc' := 83) (v := .ref 127) kc_23_80 rfl rfl rfl A74 rfl ?_
                refine xi_iload_n (pc' := 84) (x := x1) kc_23_83 rfl rfl ?_
                refine xi_iload (pc' := 86) (x := x4) kc_23_84 rfl rfl ?_
                refine xcps4 (xk_arr K73.1 xD_127) (fun y75 A75 hy75 ry75 => ?_)
                by_cases c76 : x4.toInt = 0
                · have qx4 : x4 = 0 := xc_of (Eq.trans (by omega) (show (0 : Int) = (0 : Int32).toInt by decide))
                  subst qx4
                  refine xcps4 (xj_set (v := 0) hy75 ry75 x1 (by first | omega | decide) (by first | omega | decide)) (fun y77 s77 hy77 ry77 => ?_)
                  refine xi_bastore (pc' := 87) (x' := y77) kc_23_86 rfl A75 rfl (xi_in (by omega) (by rw [hy75]; omega)) s77 (fun hh77 eh77 => ?_)
                  have K78 := xk_pa K73 (xk_wa rfl) xD_127 hy77 ry77 eh77
                  refine xi_aload_n (pc' := 88) (x := 115) kc_23_87 rfl rfl ?_
                  refine xi_iconst (pc' := 89) (v := 0) kc_23_88 rfl rfl ?_
                  have A79 := ((eh77.2.1 115 (by decide)).trans A74)
                  refine xi_putfield (pc' := 92) (fs' := [.int 0, .int u2, .ref 116, .ref 117, .ref 118, .ref 119, .ref 120, .ref 121, .ref 122, .ref 123, .ref 124, .ref 125, .ref 126, .ref 127, .ref 128, .ref 129, .int u3, .ref 130, .int u4, .ref 131, .ref 132, .ref 133, .ref 134, .int u5, .ref 135, .ref 136, .ref 137, .ref 138, .ref 139, .ref 140, .ref 141, .ref 142, .int u6, .int u7, .int u8, .ref 143, .ref 144, .ref 145, .ref 146, .ref 147, .ref 148, .int 0, .ref 149, .ref 150, .ref 151, .int u10, .ref 152, .ref 153, .ref 154, .ref 155, .ref 156, .ref 157, .ref 158, .ref 159, .int u11, .ref 160, .int u12, .ref 161, .ref 162, .ref 163, .ref 164, .int u13, .ref 165, .ref 166]) kc_23_89 rfl rfl rfl A79 rfl rfl rfl (Nat.le_of_ble_eq_true rfl) rfl (fun hh81 eh80 => ?_)
                  have K82 := xk_pf (k := 41) (v := 0) K78 (xk_wf rfl) xD_115 A79 rfl (by first | omega | decide) (by first | omega | decide) eh80 rfl
                  refine xi_iload (pc' := 94) (x := 1) kc_23_92 rfl rfl ?_
                  refine xi_iff (pc' := 97) kc_23_94 rfl rfl ?_
                  refine xi_iconst (pc' := 98) (v := 0) kc_23_97 rfl rfl ?_
                  refine xi_goto (pc' := 102) kc_23_98 rfl ?_
                  refine xi_ireturn kc_23_102 mr_23 rfl ?_
                  have zc0 : (0 : Int32).toInt = 0 := by decide
                  exact kk 0 hh81 (by omega) K82
                have qx4 : x4 = 1 := xc_of (Eq.trans (by omega) (show (1 : Int) = (1 : Int32).toInt by decide))
                subst qx4
                refine xcps4 (xj_set (v := 1) hy75 ry75 x1 (by first | omega | decide) (by first | omega | decide)) (fun y83 s83 hy83 ry83 => ?_)
                refine xi_bastore (pc' := 87) (x' := y83) kc_23_86 rfl A75 rfl (xi_in (by omega) (by rw [hy75]; omega)) s83 (fun hh83 eh83 => ?_)
                have K84 := xk_pa K73 (xk_wa rfl) xD_127 hy83 ry83 eh83
                refine xi_aload_n (pc' := 88) (x := 115) kc_23_87 rfl rfl ?_
                refine xi_iconst (pc' := 89) (v := 0) kc_23_88 rfl rfl ?_
                have A85 := ((eh83.2.1 115 (by decide)).trans A74)
                refine xi_putfield (pc' := 92) (fs' := [.int 0, .int u2, .ref 116, .ref 117, .ref 118, .ref 119, .ref 120, .ref 121, .ref 122, .ref 123, .ref 124, .ref 125, .ref 126, .ref 127, .ref 128, .ref 129, .int u3, .ref 130, .int u4, .ref 131, .ref 132, .ref 133, .ref 134, .int u5, .ref 135, .ref 136, .ref 137, .ref 138, .ref 139, .ref 140, .ref 141, .ref 142, .int u6, .int u7, .int u8, .ref 143, .ref 144, .ref 145, .ref 146, .ref 147, .ref 148, .int 0, .ref 149, .ref 150, .ref 151, .int u10, .ref 152, .ref 153, .ref 154, .ref 155, .ref 156, .ref 157, .ref 158, .ref 159, .int u11, .ref 160, .int u12, .ref 161, .ref 162, .ref 163, .ref 164, .int u13, .ref 165, .ref 166]) kc_23_89 rfl rfl rfl A85 rfl rfl rfl (Nat.le_of_ble_eq_true rfl) rfl (fun hh87 eh86 => ?_)
                have K88 := xk_pf (k := 41) (v := 0) K84 (xk_wf rfl) xD_115 A85 rfl (by first | omega | decide) (by first | omega | decide) eh86 rfl
                refine xi_iload (pc' := 94) (x := 1) kc_23_92 rfl rfl ?_
                refine xi_iff (pc' := 97) kc_23_94 rfl rfl ?_
                refine xi_iconst (pc' := 98) (v := 0) kc_23_97 rfl rfl ?_
                refine xi_goto (pc' := 102) kc_23_98 rfl ?_
                refine xi_ireturn kc_23_102 mr_23 rfl ?_
                have zc0 : (0 : Int32).toInt = 0 := by decide
                exact kk 0 hh87 (by omega) K88
            · refine xi_cmf (pc' := 42) kc_23_39 rfl (xc_le_f (X := x3.toInt) (Y := 100) rfl (by decide) (by omega)) ?_
              refine xi_aload_n (pc' := 43) (x := 115) kc_23_42 rfl rfl ?_
              refine xi_bipush (pc' := 45) (v := (-6)) kc_23_43 rfl rfl ?_
              refine xi_virtual (mj := 12) (as := [.int (-6)]) (st1 := []) (lv0 := [(0, .ref 115), (1, .int (-6))]) kc_23_45 rfl rfl rfl rfl rfl eh15.1 (Nat.le_of_ble_eq_true rfl) (hJ _ _ _ _ (by decide)) (xm_le ml_12 rfl) rfl ?_
              refine xi_aload_n (pc' := 1) (x := 115) kc_12_0 rfl rfl ?_
              refine xi_getfield (pc' := 4) (v := .ref 140) kc_12_1 rfl rfl rfl eh15.1 rfl ?_
              refine xi_iload_n (pc' := 5) (x := (-6)) kc_12_4 rfl rfl ?_
              refine xi_ineg (pc' := 6) (v := 6) kc_12_5 rfl rfl ?_
              refine xi_dup2 (pc' := 7) kc_12_6 rfl ⟨rfl, rfl⟩ ?_
              refine xcps4 (xk_arr K17.1 xD_140) (fun y89 A89 hy89 ry89 => ?_)
              refine xcps4 (xj_get hy89 ry89 (i := 6) (by decide) (by decide)) (fun v90 ev90 bv90 dv90 => ?_)
              refine xi_iaload (pc' := 8) (v := v90) kc_12_7 rfl A89 (by decide) rfl (xi_in (by decide) (by rw [hy89]; decide)) ev90 ?_
              refine xi_iconst (pc' := 9) (v := 1) kc_12_8 rfl rfl ?_
              refine xcps2 (α := Int32) ((v90 : Int32) + 1) (fun v91 ev91 => ?_)
              have rv91 := xc_rng v91
              refine xi_iadd (pc' := 10) (v := v91) kc_12_9 rfl ev91 ?_
              refine xcps4 (xj_set (v := v91) hy89 ry89 6 (by first | omega | decide) (by first | omega | decide)) (fun y92 s92 hy92 ry92 => ?_)
              refine xi_iastore (pc' := 11) (x' := y92) kc_12_10 rfl A89 rfl (xi_in (by decide) (by rw [hy89]; decide)) s92 (fun hh92 eh92 => ?_)
              have K93 := xk_pa K17 (xk_wa rfl) xD_140 hy92 ry92 eh92
              refine xi_iload_n (pc' := 12) (x := (-6)) kc_12_11 rfl rfl ?_
              refine xi_ireturn kc_12_12 mr_12 rfl ?_
              show xw J ov (d + 2) 23 (48, [(0, .ref 115), (1, .int x1), (2, .int x2), (3, .int x3), (4, .int x4)], [.int (-6)], hh92) _
              refine xi_ireturn kc_23_48 mr_23 rfl ?_
              have zcm6 : ((-6) : Int32).toInt = (-6) := by decide
              exact kk (-6) hh92 (by omega) K93
          · refine xi_iff (pc' := 29) kc_23_26 rfl (xc_ge_f (X := x3.toInt) (Y := 0) rfl (by decide) (by omega)) ?_
            refine xi_aload_n (pc' := 30) (x := 115) kc_23_29 rfl rfl ?_
            refine xi_bipush (pc' := 32) (v := (-4)) kc_23_30 rfl rfl ?_
            refine xi_virtual (mj := 12) (as := [.int (-4)]) (st1 := []) (lv0 := [(0, .ref 115), (1, .int (-4))]) kc_23_32 rfl rfl rfl rfl rfl eh15.1 (Nat.le_of_ble_eq_true rfl) (hJ _ _ _ _ (by decide)) (xm_le ml_12 rfl) rfl ?_
            refine xi_aload_n (pc' := 1) (x := 115) kc_12_0 rfl rfl ?_
            refine xi_getfield (pc' := 4) (v := .ref 140) kc_12_1 rfl rfl rfl eh15.1 rfl ?_
            refine xi_iload_n (pc' := 5) (x := (-4)) kc_12_4 rfl rfl ?_
            refine xi_ineg (pc' := 6) (v := 4) kc_12_5 rfl rfl ?_
            refine xi_dup2 (pc' := 7) kc_12_6 rfl ⟨rfl, rfl⟩ ?_
            refine xcps4 (xk_arr K17.1 xD_140) (fun y94 A94 hy94 ry94 => ?_)
            refine xcps4 (xj_get hy94 ry94 (i := 4) (by decide) (by decide)) (fun v95 ev95 bv95 dv95 => ?_)
            refine xi_iaload (pc' := 8) (v := v95) kc_12_7 rfl A94 (by decide) rfl (xi_in (by decide) (by rw [hy94]; decide)) ev95 ?_
            refine xi_iconst (pc' := 9) (v := 1) kc_12_8 rfl rfl ?_
            refine xcps2 (α := Int32) ((v95 : Int32) + 1) (fun v96 ev96 => ?_)
            have rv96 := xc_rng v96
            refine xi_iadd (pc' := 10) (v := v96) kc_12_9 rfl ev96 ?_
            refine xcps4 (xj_set (v := v96) hy94 ry94 4 (by first | omega | decide) (by first | omega | decide)) (fun y97 s97 hy97 ry97 => ?_)
            refine xi_iastore (pc' := 11) (x' := y97) kc_12_10 rfl A94 rfl (xi_in (by decide) (by rw [hy94]; decide)) s97 (fun hh97 eh97 => ?_)
            have K98 := xk_pa K17 (xk_wa rfl) xD_140 hy97 ry97 eh97
            refine xi_iload_n (pc' := 12) (x := (-4)) kc_12_11 rfl rfl ?_
            refine xi_ireturn kc_12_12 mr_12 rfl ?_
            show xw J ov (d + 2) 23 (35, [(0, .ref 115), (1, .int x1), (2, .int x2), (3, .int x3), (4, .int x4)], [.int (-4)], hh97) _
            refine xi_ireturn kc_23_35 mr_23 rfl ?_
            have zcm4 : ((-4) : Int32).toInt = (-4) := by decide
            exact kk (-4) hh97 (by omega) K98
