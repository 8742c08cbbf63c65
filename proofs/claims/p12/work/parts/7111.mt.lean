set_option maxHeartbeats 4000000 in
theorem mt_94_0 {J : xe_J} {ov : List (List Int32)} (hJ : ∀ d mj as h, mj ≠ xe_loff → J d mj as h = none) (hov1 : ov[1]? = some [10, 0, 0, 0, 0, 0]) (hov2 : ov[2]? = some [99, 30, 50, 50, 1, 99999]) {d : Nat} {Q : Option Value → xe_H → Prop} {h : xe_H} {x1 : Int32} {x2 : Int32} {x3 : Int32} (T : xt h) (kk : (∀ (r : Int32) (h' : xe_H), xk [(0, 9), (115, 1), (83, 0), (29, 0), (31, 0), (33, 0), (35, 0), (37, 0), (39, 0), (41, 0), (43, 0), (45, 0), (47, 0), (49, 0), (51, 0), (125, 0), (66, 8), (115, 18), (71, 0), (132, 0)] h h' → Q (some (.int r)) h')) : xw J ov (d + 1) 94 (0, [(0, .ref 0), (1, .int x1), (2, .int x2), (3, .int x3)], [], h) Q := by
  have K : xk [(0, 9), (115, 1), (83, 0), (29, 0), (31, 0), (33, 0), (35, 0), (37, 0), (39, 0), (41, 0), (43, 0), (45, 0), (47, 0), (49, 0), (51, 0), (125, 0), (66, 8), (115, 18), (71, 0), (132, 0)] h h := xk_re T
  have rx1 := xc_rng x1
  have rx2 := xc_rng x2
  have rx3 := xc_rng x3
  refine xi_iload_n (pc' := 1) (x := x1) kc_94_0 rfl rfl ?_
  refine xi_static (mj := 89) (as := [.int x1]) (st1 := []) (lv0 := [(0, .int x1)]) kc_94_1 rfl rfl (Nat.le_of_ble_eq_true rfl) rfl rfl (Nat.le_of_ble_eq_true rfl) (hJ _ _ _ _ (by decide)) (xm_le ml_89 rfl) rfl ?_
  refine xi_iload_n (pc' := 1) (x := x1) kc_89_0 rfl rfl ?_
  by_cases c1 : x1.toInt < 0
  · refine xi_ift (pc' := 14) kc_89_1 rfl (xc_lt_t (X := x1.toInt) (Y := 0) rfl (by decide) (by omega)) ?_
    refine xi_iconst (pc' := 15) (v := 0) kc_89_14 rfl rfl ?_
    refine xi_ireturn kc_89_15 mr_89 rfl ?_
    show xw J ov (d + 1) 94 (4, [(0, .ref 0), (1, .int x1), (2, .int x2), (3, .int x3)], [.int 0], h) _
    refine xi_ift (pc' := 17) kc_94_4 rfl rfl ?_
    refine xi_aload_n (pc' := 18) (x := 0) kc_94_17 rfl rfl ?_
    refine xi_iconst (pc' := 19) (v := (-1)) kc_94_18 rfl rfl ?_
    refine xp_0 K.1 (fun u2 u3 bu2 bu3 A4 => ?_)
    refine xi_virtual (mj := 90) (as := [.int (-1)]) (st1 := []) (lv0 := [(0, .ref 0), (1, .int (-1))]) kc_94_19 rfl rfl rfl rfl rfl A4 (Nat.le_of_ble_eq_true rfl) (hJ _ _ _ _ (by decide)) (xm_le ml_90 rfl) rfl ?_
    refine xi_iload_n (pc' := 1) (x := (-1)) kc_90_0 rfl rfl ?_
    refine xi_ineg (pc' := 2) (v := 1) kc_90_1 rfl rfl ?_
    refine xi_istore_n (pc' := 3) (lv' := [(2, .int 1), (0, .ref 0), (1, .int (-1))]) kc_90_2 rfl rfl (xm_lt ml_90 rfl) ?_
    refine xi_iload_n (pc' := 4) (x := 1) kc_90_3 rfl rfl ?_
    refine xi_iff (pc' := 7) kc_90_4 rfl rfl ?_
    refine xi_iload_n (pc' := 8) (x := 1) kc_90_7 rfl rfl ?_
    refine xi_aload_n (pc' := 9) (x := 0) kc_90_8 rfl rfl ?_
    refine xi_getfield (pc' := 12) (v := .ref 94) kc_90_9 rfl rfl rfl A4 rfl ?_
    refine xcps4 (xk_arr K.1 xD_94) (fun y5 A5 hy5 ry5 => ?_)
    refine xi_arraylength (pc' := 13) (n := 7) (v := 7) kc_90_12 rfl (xl_lenI (by decide) (by decide) A5 hy5) rfl ?_
    refine xi_cmf (pc' := 16) kc_90_13 rfl rfl ?_
    refine xi_aload_n (pc' := 17) (x := 0) kc_90_16 rfl rfl ?_
    refine xi_getfield (pc' := 20) (v := .ref 94) kc_90_17 rfl rfl rfl A4 rfl ?_
    refine xi_iload_n (pc' := 21) (x := 1) kc_90_20 rfl rfl ?_
    refine xi_dup2 (pc' := 22) kc_90_21 rfl ⟨rfl, rfl⟩ ?_
    refine xcps4 (xj_get hy5 ry5 (i := 1) (by decide) (by decide)) (fun v6 ev6 bv6 dv6 => ?_)
    refine xi_iaload (pc' := 23) (v := v6) kc_90_22 rfl A5 (by decide) rfl (xi_in (by decide) (by rw [hy5]; decide)) ev6 ?_
    refine xi_iconst (pc' := 24) (v := 1) kc_90_23 rfl rfl ?_
    refine xcps2 (α := Int32) ((v6 : Int32) + 1) (fun v7 ev7 => ?_)
    have rv7 := xc_rng v7
    refine xi_iadd (pc' := 25) (v := v7) kc_90_24 rfl ev7 ?_
    refine xcps4 (xj_set (v := v7) hy5 ry5 1 (by first | omega | decide) (by first | omega | decide)) (fun y8 s8 hy8 ry8 => ?_)
    refine xi_iastore (pc' := 26) (x' := y8) kc_90_25 rfl A5 rfl (xi_in (by decide) (by rw [hy5]; decide)) s8 (fun hh8 eh8 => ?_)
    have K9 := xk_pa K (xk_wa rfl) xD_94 hy8 ry8 eh8
    refine xi_iload_n (pc' := 27) (x := (-1)) kc_90_26 rfl rfl ?_
    refine xi_ireturn kc_90_27 mr_90 rfl ?_
    show xw J ov (d + 1) 94 (22, [(0, .ref 0), (1, .int x1), (2, .int x2), (3, .int x3)], [.int (-1)], hh8) _
    refine xi_ireturn kc_94_22 mr_94 rfl ?_
    have zcm1 : ((-1) : Int32).toInt = (-1) := by decide
    exact kk (-1) hh8 K9
  · refine xi_iff (pc' := 4) kc_89_1 rfl (xc_lt_f (X := x1.toInt) (Y := 0) rfl (by decide) (by omega)) ?_
    refine xi_iload_n (pc' := 5) (x := x1) kc_89_4 rfl rfl ?_
    refine xi_bipush (pc' := 7) (v := 6) kc_89_5 rfl rfl ?_
    by_cases c10 : 6 ≤ x1.toInt
    · refine xi_cmt (pc' := 14) kc_89_7 rfl (xc_ge_t (X := x1.toInt) (Y := 6) rfl (by decide) (by omega)) ?_
      refine xi_iconst (pc' := 15) (v := 0) kc_89_14 rfl rfl ?_
      refine xi_ireturn kc_89_15 mr_89 rfl ?_
      show xw J ov (d + 1) 94 (4, [(0, .ref 0), (1, .int x1), (2, .int x2), (3, .int x3)], [.int 0], h) _
      refine xi_ift (pc' := 17) kc_94_4 rfl rfl ?_
      refine xi_aload_n (pc' := 18) (x := 0) kc_94_17 rfl rfl ?_
      refine xi_iconst (pc' := 19) (v := (-1)) kc_94_18 rfl rfl ?_
      refine xp_0 K.1 (fun u11 u12 bu11 bu12 A13 => ?_)
      refine xi_virtual (mj := 90) (as := [.int (-1)]) (st1 := []) (lv0 := [(0, .ref 0), (1, .int (-1))]) kc_94_19 rfl rfl rfl rfl rfl A13 (Nat.le_of_ble_eq_true rfl) (hJ _ _ _ _ (by decide)) (xm_le ml_90 rfl) rfl ?_
      refine xi_iload_n (pc' := 1) (x := (-1)) kc_90_0 rfl rfl ?_
      refine xi_ineg (pc' := 2) (v := 1) kc_90_1 rfl rfl ?_
      refine xi_istore_n (pc' := 3) (lv' := [(2, .int 1), (0, .ref 0), (1, .int (-1))]) kc_90_2 rfl rfl (xm_lt ml_90 rfl) ?_
      refine xi_iload_n (pc' := 4) (x := 1) kc_90_3 rfl rfl ?_
      refine xi_iff (pc' := 7) kc_90_4 rfl rfl ?_
      refine xi_iload_n (pc' := 8) (x := 1) kc_90_7 rfl rfl ?_
      refine xi_aload_n (pc' := 9) (x := 0) kc_90_8 rfl rfl ?_
      refine xi_getfield (pc' := 12) (v := .ref 94) kc_90_9 rfl rfl rfl A13 rfl ?_
      refine xcps4 (xk_arr K.1 xD_94) (fun y14 A14 hy14 ry14 => ?_)
      refine xi_arraylength (pc' := 13) (n := 7) (v := 7) kc_90_12 rfl (xl_lenI (by decide) (by decide) A14 hy14) rfl ?_
      refine xi_cmf (pc' := 16) kc_90_13 rfl rfl ?_
      refine xi_aload_n (pc' := 17) (x := 0) kc_90_16 rfl rfl ?_
      refine xi_getfield (pc' := 20) (v := .ref 94) kc_90_17 rfl rfl rfl A13 rfl ?_
      refine xi_iload_n (pc' := 21) (x := 1) kc_90_20 rfl rfl ?_
      refine xi_dup2 (pc' := 22) kc_90_21 rfl ⟨rfl, rfl⟩ ?_
      refine xcps4 (xj_get hy14 ry14 (i := 1) (by decide) (by decide)) (fun v15 ev15 bv15 dv15 => ?_)
      refine xi_iaload (pc' := 23) (v := v15) kc_90_22 rfl A14 (by decide) rfl (xi_in (by decide) (by rw [hy14]; decide)) ev15 ?_
      refine xi_iconst (pc' := 24) (v := 1) kc_90_23 rfl rfl ?_
      refine xcps2 (α := Int32) ((v15 : Int32) + 1) (fun v16 ev16 => ?_)
      have rv16 := xc_rng v16
      refine xi_iadd (pc' := 25) (v := v16) kc_90_24 rfl ev16 ?_
      refine xcps4 (xj_set (v := v16) hy14 ry14 1 (by first | omega | decide) (by first | omega | decide)) (fun y17 s17 hy17 ry17 => ?_)
      refine xi_iastore (pc' := 26) (x' := y17) kc_90_25 rfl A14 rfl (xi_in (by decide) (by rw [hy14]; decide)) s17 (fun hh17 eh17 => ?_)
      have K18 := xk_pa K (xk_wa rfl) xD_94 hy17 ry17 eh17
      refine xi_iload_n (pc' := 27) (x := (-1)) kc_90_26 rfl rfl ?_
      refine xi_ireturn kc_90_27 mr_90 rfl ?_
      show xw J ov (d + 1) 94 (22, [(0, .ref 0), (1, .int x1), (2, .int x2), (3, .int x3)], [.int (-1)], hh17) _
      refine xi_ireturn kc_94_22 mr_94 rfl ?_
      have zcm1 : ((-1) : Int32).toInt = (-1) := by decide
      exact kk (-1) hh17 K18
    · refine xi_cmf (pc' := 10) kc_89_7 rfl (xc_ge_f (X := x1.toInt) (Y := 6) rfl (by decide) (by omega)) ?_
      refine xi_iconst (pc' := 11) (v := 1) kc_89_10 rfl rfl ?_
      refine xi_goto (pc' := 15) kc_89_11 rfl ?_
      refine xi_ireturn kc_89_15 mr_89 rfl ?_
      show xw J ov (d + 1) 94 (4, [(0, .ref 0), (1, .int x1), (2, .int x2), (3, .int x3)], [.int 1], h) _
      refine xi_iff (pc' := 7) kc_94_4 rfl rfl ?_
      refine xi_iload_n (pc' := 8) (x := x2) kc_94_7 rfl rfl ?_
      by_cases c19 : x2.toInt < 0
      · refine xi_ift (pc' := 17) kc_94_8 rfl (xc_lt_t (X := x2.toInt) (Y := 0) rfl (by decide) (by omega)) ?_
        refine xi_aload_n (pc' := 18) (x := 0) kc_94_17 rfl rfl ?_
        refine xi_iconst (pc' := 19) (v := (-1)) kc_94_18 rfl rfl ?_
        refine xp_0 K.1 (fun u20 u21 bu20 bu21 A22 => ?_)
        refine xi_virtual (mj := 90) (as := [.int (-1)]) (st1 := []) (lv0 := [(0, .ref 0), (1, .int (-1))]) kc_94_19 rfl rfl rfl rfl rfl A22 (Nat.le_of_ble_eq_true rfl) (hJ _ _ _ _ (by decide)) (xm_le ml_90 rfl) rfl ?_
        refine xi_iload_n (pc' := 1) (x := (-1)) kc_90_0 rfl rfl ?_
        refine xi_ineg (pc' := 2) (v := 1) kc_90_1 rfl rfl ?_
        refine xi_istore_n (pc' := 3) (lv' := [(2, .int 1), (0, .ref 0), (1, .int (-1))]) kc_90_2 rfl rfl (xm_lt ml_90 rfl) ?_
        refine xi_iload_n (pc' := 4) (x := 1) kc_90_3 rfl rfl ?_
        refine xi_iff (pc' := 7) kc_90_4 rfl rfl ?_
        refine xi_iload_n (pc' := 8) (x := 1) kc_90_7 rfl rfl ?_
        refine xi_aload_n (pc' := 9) (x := 0) kc_90_8 rfl rfl ?_
        refine xi_getfield (pc' := 12) (v := .ref 94) kc_90_9 rfl rfl rfl A22 rfl ?_
        refine xcps4 (xk_arr K.1 xD_94) (fun y23 A23 hy23 ry23 => ?_)
        refine xi_arraylength (pc' := 13) (n := 7) (v := 7) kc_90_12 rfl (xl_lenI (by decide) (by decide) A23 hy23) rfl ?_
        refine xi_cmf (pc' := 16) kc_90_13 rfl rfl ?_
        refine xi_aload_n (pc' := 17) (x := 0) kc_90_16 rfl rfl ?_
        refine xi_getfield (pc' := 20) (v := .ref 94) kc_90_17 rfl rfl rfl A22 rfl ?_
        refine xi_iload_n (pc' := 21) (x := 1) kc_90_20 rfl rfl ?_
        refine xi_dup2 (pc' := 22) kc_90_21 rfl ⟨rfl, rfl⟩ ?_
        refine xcps4 (xj_get hy23 ry23 (i := 1) (by decide) (by decide)) (fun v24 ev24 bv24 dv24 => ?_)
        refine xi_iaload (pc' := 23) (v := v24) kc_90_22 rfl A23 (by decide) rfl (xi_in (by decide) (by rw [hy23]; decide)) ev24 ?_
        refine xi_iconst (pc' := 24) (v := 1) kc_90_23 rfl rfl ?_
        refine xcps2 (α := Int32) ((v24 : Int32) + 1) (fun v25 ev25 => ?_)
        have rv25 := xc_rng v25
        refine xi_iadd (pc' := 25) (v := v25) kc_90_24 rfl ev25 ?_
        refine xcps4 (xj_set (v := v25) hy23 ry23 1 (by first | omega | decide) (by first | omega | decide)) (fun y26 s26 hy26 ry26 => ?_)
        refine xi_iastore (pc' := 26) (x' := y26) kc_90_25 rfl A23 rfl (xi_in (by decide) (by rw [hy23]; decide)) s26 (fun hh26 eh26 => ?_)
        have K27 := xk_pa K (xk_wa rfl) xD_94 hy26 ry26 eh26
        refine xi_iload_n (pc' := 27) (x := (-1)) kc_90_26 rfl rfl ?_
        refine xi_ireturn kc_90_27 mr_90 rfl ?_
        show xw J ov (d + 1) 94 (22, [(0, .ref 0), (1, .int x1), (2, .int x2), (3, .int x3)], [.int (-1)], hh26) _
        refine xi_ireturn kc_94_22 mr_94 rfl ?_
        have zcm1 : ((-1) : Int32).toInt = (-1) := by decide
        exact kk (-1) hh26 K27
      · refine xi_iff (pc' := 11) kc_94_8 rfl (xc_lt_f (X := x2.toInt) (Y := 0) rfl (by decide) (by omega)) ?_
        refine xi_iload_n (pc' := 12) (x := x2) kc_94_11 rfl rfl ?_
        refine xi_bipush (pc' := 14) (v := 24) kc_94_12 rfl rfl ?_
        by_cases c28 : x2.toInt < 24
        · refine xi_cmt (pc' := 23) kc_94_14 rfl (xc_lt_t (X := x2.toInt) (Y := 24) rfl (by decide) (by omega)) ?_
          refine xi_iload_n (pc' := 24) (x := x3) kc_94_23 rfl rfl ?_
          by_cases c29 : 0 ≤ x3.toInt
          · refine xi_ift (pc' := 34) kc_94_24 rfl (xc_ge_t (X := x3.toInt) (Y := 0) rfl (by decide) (by omega)) ?_
            refine xi_iload_n (pc' := 35) (x := x3) kc_94_34 rfl rfl ?_
            refine xi_sipush (pc' := 38) (v := 999) kc_94_35 rfl rfl ?_
            by_cases c30 : x3.toInt ≤ 999
            · refine xi_cmt (pc' := 48) kc_94_38 rfl (xc_le_t (X := x3.toInt) (Y := 999) rfl (by decide) (by omega)) ?_
              refine xi_aload_n (pc' := 49) (x := 0) kc_94_48 rfl rfl ?_
              refine xp_0 K.1 (fun u31 u32 bu31 bu32 A33 => ?_)
              refine xi_getfield (pc' := 52) (v := .ref 66) kc_94_49 rfl rfl rfl A33 rfl ?_
              refine xp_66 K.1 (fun u35 wl34 bu35 A36 => ?_)
              refine xi_virtual (mj := 91) (as := []) (st1 := []) (lv0 := [(0, .ref 66)]) kc_94_52 rfl rfl rfl rfl rfl A36 (Nat.le_of_ble_eq_true rfl) (hJ _ _ _ _ (by decide)) (xm_le ml_91 rfl) rfl ?_
              refine xi_aload_n (pc' := 1) (x := 66) kc_91_0 rfl rfl ?_
              refine xi_lconst (pc' := 2) (v := 0) kc_91_1 rfl rfl ?_
              refine xi_putfield (pc' := 5) (fs' := [.ref 1, .ref 67, .ref 70, .ref 71, .ref 72, .ref 73, .ref 74, .long 0, .int u35]) kc_91_2 rfl rfl rfl A36 rfl rfl rfl (Nat.le_of_ble_eq_true rfl) rfl (fun hh38 eh37 => ?_)
              have K39 := xk_pl (k := 7) (v := 0) K (xk_wf rfl) xD_66 A36 rfl eh37 rfl
              refine xi_return kc_91_5 mr_91 ?_
              show xw J ov (d + 1) 94 (55, [(0, .ref 0), (1, .int x1), (2, .int x2), (3, .int x3)], [], hh38) _
              refine xi_aload_n (pc' := 56) (x := 0) kc_94_55 rfl rfl ?_
              have A40 := ((eh37.2.1 0 (by decide)).trans A33)
              refine xi_getfield (pc' := 59) (v := .ref 1) kc_94_56 rfl rfl rfl A40 rfl ?_
              refine xp_1 K39.1 (fun u41 u42 bu41 bu42 A43 => ?_)
              refine xi_getfield (pc' := 62) (v := .ref 2) kc_94_59 rfl rfl rfl A43 rfl ?_
              refine xi_iload_n (pc' := 63) (x := x1) kc_94_62 rfl rfl ?_
              have A44 := xk_ex K39.1 xD_2
              obtain ⟨pt45, ept45, mpt45⟩ := xR_2 (i := x1) (by omega) (by omega)
              refine xj_aaload (pc' := 64) (b := pt45) kc_94_63 rfl A44 rfl (xi_in (n := 6) (by omega) (by omega)) ept45 ?_
              obtain ⟨pt46, pt47, mpt46, mpt47, A48⟩ := xg_room K39.1 mpt45
              refine xi_getfield (pc' := 67) (v := .ref pt47) kc_94_64 rfl rfl rfl A48 rfl ?_
              refine xi_astore (pc' := 69) (lv' := [(4, .ref pt47), (0, .ref 0), (1, .int x1), (2, .int x2), (3, .int x3)]) kc_94_67 rfl rfl (xm_lt ml_94 rfl) ?_
              refine xi_aload (pc' := 71) (x := pt47) kc_94_69 rfl rfl ?_
              refine xi_iload_n (pc' := 72) (x := x2) kc_94_71 rfl rfl ?_
              refine xcps4 (xk_arr K39.1 (xGD_room1 mpt47)) (fun y49 A49 hy49 ry49 => ?_)
              refine xcps4 (xj_get hy49 ry49 (i := x2) (by omega) (by omega)) (fun v50 ev50 bv50 dv50 => ?_)
              refine xi_iaload (pc' := 73) (v := v50) kc_94_72 rfl A49 (xk_lo mpt47 rfl) rfl (xi_in (by omega) (by rw [hy49]; omega)) ev50 ?_
              refine xi_istore (pc' := 75) (lv' := [(5, .int v50), (4, .ref pt47), (0, .ref 0), (1, .int x1), (2, .int x2), (3, .int x3)]) kc_94_73 rfl rfl (xm_lt ml_94 rfl) ?_
              refine xi_aload (pc' := 77) (x := pt47) kc_94_75 rfl rfl ?_
              refine xi_iload_n (pc' := 78) (x := x2) kc_94_77 rfl rfl ?_
              refine xi_iload_n (pc' := 79) (x := x3) kc_94_78 rfl rfl ?_
              refine xcps4 (xj_set (v := x3) hy49 ry49 x2 (by first | omega | decide) (by first | omega | decide)) (fun y51 s51 hy51 ry51 => ?_)
              refine xi_iastore (pc' := 80) (x' := y51) kc_94_79 rfl A49 rfl (xi_in (by omega) (by rw [hy49]; omega)) s51 (fun hh51 eh51 => ?_)
              have K52 := xk_pa K39 (xk_ga mpt47 rfl) (xGD_room1 mpt47) hy51 ry51 eh51
              refine xi_iload (pc' := 82) (x := v50) kc_94_80 rfl rfl ?_
              refine xi_ireturn kc_94_82 mr_94 rfl ?_
              exact kk v50 hh51 K52
            · refine xi_cmf (pc' := 41) kc_94_38 rfl (xc_le_f (X := x3.toInt) (Y := 999) rfl (by decide) (by omega)) ?_
              refine xi_aload_n (pc' := 42) (x := 0) kc_94_41 rfl rfl ?_
              refine xi_bipush (pc' := 44) (v := (-6)) kc_94_42 rfl rfl ?_
              refine xp_0 K.1 (fun u53 u54 bu53 bu54 A55 => ?_)
              refine xi_virtual (mj := 90) (as := [.int (-6)]) (st1 := []) (lv0 := [(0, .ref 0), (1, .int (-6))]) kc_94_44 rfl rfl rfl rfl rfl A55 (Nat.le_of_ble_eq_true rfl) (hJ _ _ _ _ (by decide)) (xm_le ml_90 rfl) rfl ?_
              refine xi_iload_n (pc' := 1) (x := (-6)) kc_90_0 rfl rfl ?_
              refine xi_ineg (pc' := 2) (v := 6) kc_90_1 rfl rfl ?_
              refine xi_istore_n (pc' := 3) (lv' := [(2, .int 6), (0, .ref 0), (1, .int (-6))]) kc_90_2 rfl rfl (xm_lt ml_90 rfl) ?_
              refine xi_iload_n (pc' := 4) (x := 6) kc_90_3 rfl rfl ?_
              refine xi_iff (pc' := 7) kc_90_4 rfl rfl ?_
              refine xi_iload_n (pc' := 8) (x := 6) kc_90_7 rfl rfl ?_
              refine xi_aload_n (pc' := 9) (x := 0) kc_90_8 rfl rfl ?_
              refine xi_getfield (pc' := 12) (v := .ref 94) kc_90_9 rfl rfl rfl A55 rfl ?_
              refine xcps4 (xk_arr K.1 xD_94) (fun y56 A56 hy56 ry56 => ?_)
              refine xi_arraylength (pc' := 13) (n := 7) (v := 7) kc_90_12 rfl (xl_lenI (by decide) (by decide) A56 hy56) rfl ?_
              refine xi_cmf (pc' := 16) kc_90_13 rfl rfl ?_
              refine xi_aload_n (pc' := 17) (x := 0) kc_90_16 rfl rfl ?_
              refine xi_getfield (pc' := 20) (v := .ref 94) kc_90_17 rfl rfl rfl A55 rfl ?_
              refine xi_iload_n (pc' := 21) (x := 6) kc_90_20 rfl rfl ?_
              refine xi_dup2 (pc' := 22) kc_90_21 rfl ⟨rfl, rfl⟩ ?_
              refine xcps4 (xj_get hy56 ry56 (i := 6) (by decide) (by decide)) (fun v57 ev57 bv57 dv57 => ?_)
              refine xi_iaload (pc' := 23) (v := v57) kc_90_22 rfl A56 (by decide) rfl (xi_in (by decide) (by rw [hy56]; decide)) ev57 ?_
              refine xi_iconst (pc' := 24) (v := 1) kc_90_23 rfl rfl ?_
              refine xcps2 (α := Int32) ((v57 : Int32) + 1) (fun v58 ev58 => ?_)
              have rv58 := xc_rng v58
              refine xi_iadd (pc' := 25) (v := v58) kc_90_24 rfl ev58 ?_
              refine xcps4 (xj_set (v := v58) hy56 ry56 6 (by first | omega | decide) (by first | omega | decide)) (fun y59 s59 hy59 ry59 => ?_)
              refine xi_iastore (pc' := 26) (x' := y59) kc_90_25 rfl A56 rfl (xi_in (by decide) (by rw [hy56]; decide)) s59 (fun hh59 eh59 => ?_)
              have K60 := xk_pa K (xk_wa rfl) xD_94 hy59 ry59 eh59
              refine xi_iload_n (pc' := 27) (x := (-6)) kc_90_26 rfl rfl ?_
              refine xi_ireturn kc_90_27 mr_90 rfl ?_
              show xw J ov (d + 1) 94 (47, [(0, .ref 0), (1, .int x1), (2, .int x2), (3, .int x3)], [.int (-6)], hh59) _
              refine xi_ireturn kc_94_47 mr_94 rfl ?_
              have zcm6 : ((-6) : Int32).toInt = (-6) := by decide
              exact kk (-6) hh59 K60
          · refine xi_iff (pc' := 27) kc_94_24 rfl (xc_ge_f (X := x3.toInt) (Y := 0) rfl (by decide) (by omega)) ?_
            refine xi_aload_n (pc' := 28) (x := 0) kc_94_27 rfl rfl ?_
            refine xi_bipush (pc' := 30) (v := (-4)) kc_94_28 rfl rfl ?_
            refine xp_0 K.1 (fun u61 u62 bu61 bu62 A63 => ?_)
            refine xi_virtual (mj := 90) (as := [.int (-4)]) (st1 := []) (lv0 := [(0, .ref 0), (1, .int (-4))]) kc_94_30 rfl rfl rfl rfl rfl A63 (Nat.le_of_ble_eq_true rfl) (hJ _ _ _ _ (by decide)) (xm_le ml_90 rfl) rfl ?_
            refine xi_iload_n (pc' := 1) (x := (-4)) kc_90_0 rfl rfl ?_
            refine xi_ineg (pc' := 2) (v := 4) kc_90_1 rfl rfl ?_
            refine xi_istore_n (pc' := 3) (lv' := [(2, .int 4), (0, .ref 0), (1, .int (-4))]) kc_90_2 rfl rfl (xm_lt ml_90 rfl) ?_
            refine xi_iload_n (pc' := 4) (x := 4) kc_90_3 rfl rfl ?_
            refine xi_iff (pc' := 7) kc_90_4 rfl rfl ?_
            refine xi_iload_n (pc' := 8) (x := 4) kc_90_7 rfl rfl ?_
            refine xi_aload_n (pc' := 9) (x := 0) kc_90_8 rfl rfl ?_
            refine xi_getfield (pc' := 12) (v := .ref 94) kc_90_9 rfl rfl rfl A63 rfl ?_
            refine xcps4 (xk_arr K.1 xD_94) (fun y64 A64 hy64 ry64 => ?_)
            refine xi_arraylength (pc' := 13) (n := 7) (v := 7) kc_90_12 rfl (xl_lenI (by decide) (by decide) A64 hy64) rfl ?_
            refine xi_cmf (pc' := 16) kc_90_13 rfl rfl ?_
            refine xi_aload_n (pc' := 17) (x := 0) kc_90_16 rfl rfl ?_
            refine xi_getfield (pc' := 20) (v := .ref 94) kc_90_17 rfl rfl rfl A63 rfl ?_
            refine xi_iload_n (pc' := 21) (x := 4) kc_90_20 rfl rfl ?_
            refine xi_dup2 (pc' := 22) kc_90_21 rfl ⟨rfl, rfl⟩ ?_
            refine xcps4 (xj_get hy64 ry64 (i := 4) (by decide) (by decide)) (fun v65 ev65 bv65 dv65 => ?_)
            refine xi_iaload (pc' := 23) (v := v65) kc_90_22 rfl A64 (by decide) rfl (xi_in (by decide) (by rw [hy64]; decide)) ev65 ?_
            refine xi_iconst (pc' := 24) (v := 1) kc_90_23 rfl rfl ?_
            refine xcps2 (α := Int32) ((v65 : Int32) + 1) (fun v66 ev66 => ?_)
            have rv66 := xc_rng v66
            refine xi_iadd (pc' := 25) (v := v66) kc_90_24 rfl ev66 ?_
            refine xcps4 (xj_set (v := v66) hy64 ry64 4 (by first | omega | decide) (by first | omega | decide)) (fun y67 s67 hy67 ry67 => ?_)
            refine xi_iastore (pc' := 26) (x' := y67) kc_90_25 rfl A64 rfl (xi_in (by decide) (by rw [hy64]; decide)) s67 (fun hh67 eh67 => ?_)
            have K68 := xk_pa K (xk_wa rfl) xD_94 hy67 ry67 eh67
            refine xi_iload_n (pc' := 27) (x := (-4)) kc_90_26 rfl rfl ?_
            refine xi_ireturn kc_90_27 mr_90 rfl ?_
            show xw J ov (d + 1) 94 (33, [(0, .ref 0), (1, .int x1), (2, .int x2), (3, .int x3)], [.int (-4)], hh67) _
            refine xi_ireturn kc_94_33 mr_94 rfl ?_
            have zcm4 : ((-4) : Int32).toInt = (-4) := by decide
            exact kk (-4) hh67 K68
        · refine xi_cmf (pc' := 17) kc_94_14 rfl (xc_lt_f (X := x2.toInt) (Y := 24) rfl (by decide) (by omega)) ?_
          refine xi_aload_n (pc' := 18) (x := 0) kc_94_17 rfl rfl ?_
          refine xi_iconst (pc' := 19) (v := (-1)) kc_94_18 rfl rfl ?_
          refine xp_0 K.1 (fun u69 u70 bu69 bu70 A71 => ?_)
          refine xi_virtual (mj := 90) (as := [.int (-1)]) (st1 := []) (lv0 := [(0, .ref 0), (1, .int (-1))]) kc_94_19 rfl rfl rfl rfl rfl A71 (Nat.le_of_ble_eq_true rfl) (hJ _ _ _ _ (by decide)) (xm_le ml_90 rfl) rfl ?_
          refine xi_iload_n (pc' := 1) (x := (-1)) kc_90_0 rfl rfl ?_
          refine xi_ineg (pc' := 2) (v := 1) kc_90_1 rfl rfl ?_
          refine xi_istore_n (pc' := 3) (lv' := [(2, .int 1), (0, .ref 0), (1, .int (-1))]) kc_90_2 rfl rfl (xm_lt ml_90 rfl) ?_
          refine xi_iload_n (pc' := 4) (x := 1) kc_90_3 rfl rfl ?_
          refine xi_iff (pc' := 7) kc_90_4 rfl rfl ?_
          refine xi_iload_n (pc' := 8) (x := 1) kc_90_7 rfl rfl ?_
          refine xi_aload_n (pc' := 9) (x := 0) kc_90_8 rfl rfl ?_
          refine xi_getfield (pc' := 12) (v := .ref 94) kc_90_9 rfl rfl rfl A71 rfl ?_
          refine xcps4 (xk_arr K.1 xD_94) (fun y72 A72 hy72 ry72 => ?_)
          refine xi_arraylength (pc' := 13) (n := 7) (v := 7) kc_90_12 rfl (xl_lenI (by decide) (by decide) A72 hy72) rfl ?_
          refine xi_cmf (pc' := 16) kc_90_13 rfl rfl ?_
          refine xi_aload_n (pc' := 17) (x := 0) kc_90_16 rfl rfl ?_
          refine xi_getfield (pc' := 20) (v := .ref 94) kc_90_17 rfl rfl rfl A71 rfl ?_
          refine xi_iload_n (pc' := 21) (x := 1) kc_90_20 rfl rfl ?_
          refine xi_dup2 (pc' := 22) kc_90_21 rfl ⟨rfl, rfl⟩ ?_
          refine xcps4 (xj_get hy72 ry72 (i := 1) (by decide) (by decide)) (fun v73 ev73 bv73 dv73 => ?_)
          refine xi_iaload (pc' := 23) (v := v73) kc_90_22 rfl A72 (by decide) rfl (xi_in (by decide) (by rw [hy72]; decide)) ev73 ?_
          refine xi_iconst (pc' := 24) (v := 1) kc_90_23 rfl rfl ?_
          refine xcps2 (α := Int32) ((v73 : Int32) + 1) (fun v74 ev74 => ?_)
          have rv74 := xc_rng v74
          refine xi_iadd (pc' := 25) (v := v74) kc_90_24 rfl ev74 ?_
          refine xcps4 (xj_set (v := v74) hy72 ry72 1 (by first | omega | decide) (by first | omega | decide)) (fun y75 s75 hy75 ry75 => ?_)
          refine xi_iastore (pc' := 26) (x' := y75) kc_90_25 rfl A72 rfl (xi_in (by decide) (by rw [hy72]; decide)) s75 (fun hh75 eh75 => ?_)
          have K76 := xk_pa K (xk_wa rfl) xD_94 hy75 ry75 eh75
          refine xi_iload_n (pc' := 27) (x := (-1)) kc_90_26 rfl rfl ?_
          refine xi_ireturn kc_90_27 mr_90 rfl ?_
          show xw J ov (d + 1) 94 (22, [(0, .ref 0), (1, .int x1), (2, .int x2), (3, .int x3)], [.int (-1)], hh75) _
          refine xi_ireturn kc_94_22 mr_94 rfl ?_
          have zcm1 : ((-1) : Int32).toInt = (-1) := by decide
          exact kk (-1) hh75 K76
set_option maxHeartbeats 4000000 in
theorem lp_98_0 {J : xe_J} {ov : List (List Int32)} (hJ : ∀ d mj as h, mj ≠ xe_loff → J d mj as h = none) (hov1 : ov[1]? = some [10, 0, 0, 0, 0, 0]) (hov2 : ov[2]? = some [99, 30, 50, 50, 1, 99999]) {d : Nat} {Q : Option Value → xe_H → Prop} {hb : xe_H} (kk : (∀ (r : Int32) (h' : xe_H), xk [(0, 9), (115, 1), (83, 0), (29, 0), (31, 0), (33, 0), (35, 0), (37, 0), (39, 0), (41, 0), (43, 0), (45, 0), (47, 0), (49, 0), (51, 0), (125, 0), (66, 8), (115, 18), (71, 0), (132, 0)] hb h' → Q (some (.int r)) h')) : ∀ m : Nat, (∀ (x3 : Int32) (x4 : Int32) (x5 : Int32) (h : xe_H), (0 ≤ x5.toInt ∧ x5.toInt ≤ 601) → xk [(0, 9), (115, 1), (83, 0), (29, 0), (31, 0), (33, 0), (35, 0), (37, 0), (39, 0), (41, 0), (43, 0), (45, 0), (47, 0), (49, 0), (51, 0), (125, 0), (66, 8), (115, 18), (71, 0), (132, 0)] hb h → (-1) * x5.toInt + 601 < (m : Int) → xw J ov (d + 1) 98 (42, [(0, .ref 5), (3, .int x3), (4, .int x4), (5, .int x5)], [], h) Q) := by
  intro m
  induction m with
  | zero =>
    intro x3 x4 x5 h b5 K hm; have rx3 := xc_rng x3; have rx4 := xc_rng x4; exfalso; omega
  | succ m ih =>
    have i0 := ih
    intro x3 x4 x5 h b5 K hm
    have rx3 := xc_rng x3
    have rx4 := xc_rng x4
    refine xi_iload (pc' := 44) (x := x5) kc_98_42 rfl rfl ?_
    refine xi_aload_n (pc' := 45) (x := 5) kc_98_44 rfl rfl ?_
    refine xp_5 K.1 (fun u1 bu1 A2 => ?_)
    refine xi_getfield (pc' := 48) (v := .ref 6) kc_98_45 rfl rfl rfl A2 rfl ?_
    refine xcps4 (xk_arr K.1 xD_6) (fun y3 A3 hy3 ry3 => ?_)
    refine xi_arraylength (pc' := 49) (n := 601) (v := 601) kc_98_48 rfl (xl_lenI (by decide) (by decide) A3 hy3) rfl ?_
    by_cases c4 : 601 ≤ x5.toInt
    · refine xi_cmt (pc' := 88) kc_98_49 rfl (xc_ge_t (X := x5.toInt) (Y := 601) rfl (by decide) (by omega)) ?_
      refine xi_iload_n (pc' := 89) (x := x3) kc_98_88 rfl rfl ?_
      refine xi_ireturn kc_98_89 mr_98 rfl ?_
      exact kk x3 h K
    · refine xi_cmf (pc' := 52) kc_98_49 rfl (xc_ge_f (X := x5.toInt) (Y := 601) rfl (by decide) (by omega)) ?_
      refine xi_aload_n (pc' := 53) (x := 5) kc_98_52 rfl rfl ?_
      refine xi_getfield (pc' := 56) (v := .ref 6) kc_98_53 rfl rfl rfl A2 rfl ?_
      refine xi_iload (pc' := 58) (x := x5) kc_98_56 rfl rfl ?_
      refine xcps4 (xj_get hy3 ry3 (i := x5) (by omega) (by omega)) (fun v5 ev5 bv5 dv5 => ?_)
      refine xi_iaload (pc' := 59) (v := v5) kc_98_58 rfl A3 (by decide) rfl (xi_in (by omega) (by rw [hy3]; omega)) ev5 ?_
      refine xi_bipush (pc' := 61) (v := 99) kc_98_59 rfl rfl ?_
      by_cases c6 : v5.toInt = 99
      · refine xi_cmt (pc' := 73) kc_98_61 rfl (xc_eq_t (X := v5.toInt) (Y := 99) rfl (by decide) (by omega)) ?_
        refine xi_aload_n (pc' := 74) (x := 5) kc_98_73 rfl rfl ?_
        refine xi_getfield (pc' := 77) (v := .ref 7) kc_98_74 rfl rfl rfl A2 rfl ?_
        refine xi_iload (pc' := 79) (x := x5) kc_98_77 rfl rfl ?_
        refine xi_iload (pc' := 81) (x := x4) kc_98_79 rfl rfl ?_
        refine xcps4 (xk_arr K.1 xD_7) (fun y7 A7 hy7 ry7 => ?_)
        refine xcps4 (xj_set (v := x4) hy7 ry7 x5 (by first | omega | decide) (by first | omega | decide)) (fun y8 s8 hy8 ry8 => ?_)
        refine xi_iastore (pc' := 82) (x' := y8) kc_98_81 rfl A7 rfl (xi_in (by omega) (by rw [hy7]; omega)) s8 (fun hh8 eh8 => ?_)
        have K9 := xk_pa K (xk_wa rfl) xD_7 hy8 ry8 eh8
        refine xcps2 (α := Int32) (x5 + 1) (fun v10 ev10 => ?_)
        have zv10 : v10.toInt = (x5.toInt + 1) := by rw [← ev10]; exact (xz_add (X := x5.toInt) (Y := 1) rfl (by decide) (by omega) (by omega)).trans (by omega)
        refine xi_iinc (pc' := 85) (x := x5) (v := v10) (lv' := [(5, .int v10), (0, .ref 5), (3, .int x3), (4, .int x4)]) kc_98_82 rfl rfl ev10 rfl (xm_lt ml_98 rfl) ?_
        refine xi_goto (pc' := 42) kc_98_85 rfl ?_
        refine xw_lv (b := [(0, .ref 5), (3, .int x3), (4, .int x4), (5, .int v10)]) (lvS_cons (lvS_cons (lvS_cons (lvS_cons (lvS_nil (show ([5, 0, 3, 4] : List Nat).Nodup by decide)) rfl) rfl) rfl) rfl) ?_
        exact i0 x3 x4 v10 hh8 (by omega) K9 (by omega)
      · refine xi_cmf (pc' := 64) kc_98_61 rfl (xc_eq_f (X := v5.toInt) (Y := 99) rfl (by decide) (by omega)) ?_
        refine xi_aload_n (pc' := 65) (x := 5) kc_98_64 rfl rfl ?_
        refine xi_getfield (pc' := 68) (v := .ref 6) kc_98_65 rfl rfl rfl A2 rfl ?_
        refine xi_iload (pc' := 70) (x := x5) kc_98_68 rfl rfl ?_
        refine xi_iaload (pc' := 71) (v := v5) kc_98_70 rfl A3 (by decide) rfl (xi_in (by omega) (by rw [hy3]; omega)) ev5 ?_
        refine xi_istore (pc' := 73) (lv' := [(4, .int v5), (0, .ref 5), (3, .int x3), (5, .int x5)]) kc_98_71 rfl rfl (xm_lt ml_98 rfl) ?_
        refine xi_aload_n (pc' := 74) (x := 5) kc_98_73 rfl rfl ?_
        refine xi_getfield (pc' := 77) (v := .ref 7) kc_98_74 rfl rfl rfl A2 rfl ?_
        refine xi_iload (pc' := 79) (x := x5) kc_98_77 rfl rfl ?_
        refine xi_iload (pc' := 81) (x := v5) kc_98_79 rfl rfl ?_
        refine xcps4 (xk_arr K.1 xD_7) (fun y11 A11 hy11 ry11 => ?_)
        refine xcps4 (xj_set (v := v5) hy11 ry11 x5 (by first | omega | decide) (by first | omega | decide)) (fun y12 s12 hy12 ry12 => ?_)
        refine xi_iastore (pc' := 82) (x' := y12) kc_98_81 rfl A11 rfl (xi_in (by omega) (by rw [hy11]; omega)) s12 (fun hh12 eh12 => ?_)
        have K13 := xk_pa K (xk_wa rfl) xD_7 hy12 ry12 eh12
        refine xcps2 (α := Int32) (x5 + 1) (fun v14 ev14 => ?_)
        have zv14 : v14.toInt = (x5.toInt + 1) := by rw [← ev14]; exact (xz_add (X := x5.toInt) (Y := 1) rfl (by decide) (by omega) (by omega)).trans (by omega)
        refine xi_iinc (pc' := 85) (x := x5) (v := v14) (lv' := [(5, .int v14), (4, .int v5), (0, .ref 5), (3, .int x3)]) kc_98_82 rfl rfl ev14 rfl (xm_lt ml_98 rfl) ?_
        refine xi_goto (pc' := 42) kc_98_85 rfl ?_
        refine xw_lv (b := [(0, .ref 5), (3, .int x3), (4, .int v5), (5, .int v14)]) (lvS_cons (lvS_cons (lvS_cons (lvS_cons (lvS_nil (show ([5, 4, 0, 3] : List Nat).Nodup by decide)) rfl) rfl) rfl) rfl) ?_
        exact i0 x3 v5 v14 hh12 (by omega) K13 (by omega)
set_option maxHeartbeats 4000000 in
theorem mt_98_0 {J : xe_J} {ov : List (List Int32)} (hJ : ∀ d mj as h, mj ≠ xe_loff → J d mj as h = none) (hov1 : ov[1]? = some [10, 0, 0, 0, 0, 0]) (hov2 : ov[2]? = some [99, 30, 50, 50, 1, 99999]) {d : Nat} {Q : Option Value → xe_H → Prop} {h : xe_H} {x1 : Int32} {x2 : Int32} (T : xt h) (b1 : (0 ≤ x1.toInt ∧ x1.toInt ≤ 599)) (b2 : ((-20) ≤ x2.toInt ∧ x2.toInt ≤ 99)) (kk : (∀ (r : Int32) (h' : xe_H), xk [(0, 9), (115, 1), (83, 0), (29, 0), (31, 0), (33, 0), (35, 0), (37, 0), (39, 0), (41, 0), (43, 0), (45, 0), (47, 0), (49, 0), (51, 0), (125, 0), (66, 8), (115, 18), (71, 0), (132, 0)] h h' → Q (some (.int r)) h')) : xw J ov (d + 1) 98 (0, [(0, .ref 5), (1, .int x1), (2, .int x2)], [], h) Q := by
  have K : xk [(0, 9), (115, 1), (83, 0), (29, 0), (31, 0), (33, 0), (35, 0), (37, 0), (39, 0), (41, 0), (43, 0), (45, 0), (47, 0), (49, 0), (51, 0), (125, 0), (66, 8), (115, 18), (71, 0), (132, 0)] h h := xk_re T
  refine xi_iload_n (pc' := 1) (x := x1) kc_98_0 rfl rfl ?_
  refine xi_iff (pc' := 4) kc_98_1 rfl (xc_lt_f (X := x1.toInt) (Y := 0) rfl (by decide) (by omega)) ?_
  refine xi_iload_n (pc' := 5) (x := x1) kc_98_4 rfl rfl ?_
  refine xi_aload_n (pc' := 6) (x := 5) kc_98_5 rfl rfl ?_
  refine xp_5 K.1 (fun u1 bu1 A2 => ?_)
  refine xi_getfield (pc' := 9) (v := .ref 6) kc_98_6 rfl rfl rfl A2 rfl ?_
  refine xcps4 (xk_arr K.1 xD_6) (fun y3 A3 hy3 ry3 => ?_)
  refine xi_arraylength (pc' := 10) (n := 601) (v := 601) kc_98_9 rfl (xl_lenI (by decide) (by decide) A3 hy3) rfl ?_
  refine xi_cmt (pc' := 16) kc_98_10 rfl (xc_lt_t (X := x1.toInt) (Y := 601) rfl (by decide) (by omega)) ?_
  refine xi_aload_n (pc' := 17) (x := 5) kc_98_16 rfl rfl ?_
  refine xi_getfield (pc' := 20) (v := .ref 6) kc_98_17 rfl rfl rfl A2 rfl ?_
  refine xi_iload_n (pc' := 21) (x := x1) kc_98_20 rfl rfl ?_
  refine xcps4 (xj_get hy3 ry3 (i := x1) (by omega) (by omega)) (fun v4 ev4 bv4 dv4 => ?_)
  refine xi_iaload (pc' := 22) (v := v4) kc_98_21 rfl A3 (by decide) rfl (xi_in (by omega) (by rw [hy3]; omega)) ev4 ?_
  refine xi_istore_n (pc' := 23) (lv' := [(3, .int v4), (0, .ref 5), (1, .int x1), (2, .int x2)]) kc_98_22 rfl rfl (xm_lt ml_98 rfl) ?_
  refine xi_aload_n (pc' := 24) (x := 5) kc_98_23 rfl rfl ?_
  refine xi_getfield (pc' := 27) (v := .ref 6) kc_98_24 rfl rfl rfl A2 rfl ?_
  refine xi_iload_n (pc' := 28) (x := x1) kc_98_27 rfl rfl ?_
  refine xi_iload_n (pc' := 29) (x := x2) kc_98_28 rfl rfl ?_
  refine xcps4 (xj_set (v := x2) hy3 ry3 x1 (by first | omega | decide) (by first | omega | decide)) (fun y5 s5 hy5 ry5 => ?_)
  refine xi_iastore (pc' := 30) (x' := y5) kc_98_29 rfl A3 rfl (xi_in (by omega) (by rw [hy3]; omega)) s5 (fun hh5 eh5 => ?_)
  have K6 := xk_pa K (xk_wa rfl) xD_6 hy5 ry5 eh5
  refine xi_aload_n (pc' := 31) (x := 5) kc_98_30 rfl rfl ?_
  refine xi_iload_n (pc' := 32) (x := x1) kc_98_31 rfl rfl ?_
  refine xi_iconst (pc' := 33) (v := 1) kc_98_32 rfl rfl ?_
  refine xcps2 (α := Int32) (x1 - 1) (fun v7 ev7 => ?_)
  have zv7 : v7.toInt = (x1.toInt + (-1)) := by rw [← ev7]; exact (xz_sub (X := x1.toInt) (Y := 1) rfl (by decide) (by omega) (by omega)).trans (by omega)
  refine xi_isub (pc' := 34) (v := v7) kc_98_33 rfl ev7 ?_
  have A8 := ((eh5.2.1 5 (by decide)).trans A2)
  refine xi_virtual (mj := 99) (as := [.int v7]) (st1 := []) (lv0 := [(0, .ref 5), (1, .int v7)]) kc_98_34 rfl rfl rfl rfl rfl A8 (Nat.le_of_ble_eq_true rfl) (hJ _ _ _ _ (by decide)) (xm_le ml_99 rfl) rfl ?_
  refine xi_iload_n (pc' := 1) (x := v7) kc_99_0 rfl rfl ?_
  by_cases c9 : (x1.toInt + (-1)) < 0
  · refine xi_ift (pc' := 13) kc_99_1 rfl (xc_lt_t (X := (x1.toInt + (-1))) (Y := 0) zv7 (by decide) (by omega)) ?_
    refine xi_aload_n (pc' := 14) (x := 5) kc_99_13 rfl rfl ?_
    refine xi_getfield (pc' := 17) (v := .int u1) kc_99_14 rfl rfl rfl A8 rfl ?_
    refine xi_goto (pc' := 26) kc_99_17 rfl ?_
    refine xi_ireturn kc_99_26 mr_99 rfl ?_
    show xw J ov (d + 1) 98 (37, [(3, .int v4), (0, .ref 5), (1, .int x1), (2, .int x2)], [.int u1], hh5) _
    refine xi_istore (pc' := 39) (lv' := [(4, .int u1), (3, .int v4), (0, .ref 5), (1, .int x1), (2, .int x2)]) kc_98_37 rfl rfl (xm_lt ml_98 rfl) ?_
    refine xi_iload_n (pc' := 40) (x := x1) kc_98_39 rfl rfl ?_
    refine xi_istore (pc' := 42) (lv' := [(5, .int x1), (4, .int u1), (3, .int v4), (0, .ref 5), (1, .int x1), (2, .int x2)]) kc_98_40 rfl rfl (xm_lt ml_98 rfl) ?_
    refine xw_lv (b := [(0, .ref 5), (3, .int v4), (4, .int u1), (5, .int x1)]) (lvS_cons (lvS_cons (lvS_cons (lvS_cons (lvS_nil (show ([5, 4, 3, 0, 1, 2] : List Nat).Nodup by decide)) rfl) rfl) rfl) rfl) ?_
    exact (lp_98_0 hJ hov1 hov2 (d := d) (hb := hh5) (fun r9 h9 K9 => kk r9 h9 (xk_tr K6 K9 rfl)) 602) v4 u1 x1 hh5 (by omega) (xk_re K6.1) (by omega)
  · refine xi_iff (pc' := 4) kc_99_1 rfl (xc_lt_f (X := (x1.toInt + (-1))) (Y := 0) zv7 (by decide) (by omega)) ?_
    refine xi_iload_n (pc' := 5) (x := v7) kc_99_4 rfl rfl ?_
    refine xi_aload_n (pc' := 6) (x := 5) kc_99_5 rfl rfl ?_
    refine xi_getfield (pc' := 9) (v := .ref 7) kc_99_6 rfl rfl rfl A8 rfl ?_
    refine xcps4 (xk_arr K6.1 xD_7) (fun y10 A10 hy10 ry10 => ?_)
    refine xi_arraylength (pc' := 10) (n := 601) (v := 601) kc_99_9 rfl (xl_lenI (by decide) (by decide) A10 hy10) rfl ?_
    refine xi_cmt (pc' := 20) kc_99_10 rfl (xc_lt_t (X := (x1.toInt + (-1))) (Y := 601) zv7 (by decide) (by omega)) ?_
    refine xi_aload_n (pc' := 21) (x := 5) kc_99_20 rfl rfl ?_
    refine xi_getfield (pc' := 24) (v := .ref 7) kc_99_21 rfl rfl rfl A8 rfl ?_
    refine xi_iload_n (pc' := 25) (x := v7) kc_99_24 rfl rfl ?_
    refine xcps4 (xj_get hy10 ry10 (i := v7) (by rw [zv7]; omega) (by rw [zv7]; omega)) (fun v11 ev11 bv11 dv11 => ?_)
    refine xi_iaload (pc' := 26) (v := v11) kc_99_25 rfl A10 (by decide) rfl (xi_in (by rw [zv7]; omega) (by rw [hy10]; rw [zv7]; omega)) ev11 ?_
    refine xi_ireturn kc_99_26 mr_99 rfl ?_
    show xw J ov (d + 1) 98 (37, [(3, .int v4), (0, .ref 5), (1, .int x1), (2, .int x2)], [.int v11], hh5) _
    refine xi_istore (pc' := 39) (lv' := [(4, .int v11), (3, .int v4), (0, .ref 5), (1, .int x1), (2, .int x2)]) kc_98_37 rfl rfl (xm_lt ml_98 rfl) ?_
    refine xi_iload_n (pc' := 40) (x := x1) kc_98_39 rfl rfl ?_
    refine xi_istore (pc' := 42) (lv' := [(5, .int x1), (4, .int v11), (3, .int v4), (0, .ref 5), (1, .int x1), (2, .int x2)]) kc_98_40 rfl rfl (xm_lt ml_98 rfl) ?_
    refine xw_lv (b := [(0, .ref 5), (3, .int v4), (4, .int v11), (5, .int x1)]) (lvS_cons (lvS_cons (lvS_cons (lvS_cons (lvS_nil (show ([5, 4, 3, 0, 1, 2] : List Nat).Nodup by decide)) rfl) rfl) rfl) rfl) ?_
    exact (lp_98_0 hJ hov1 hov2 (d := d) (hb := hh5) (fun r9 h9 K9 => kk r9 h9 (xk_tr K6 K9 rfl)) 602) v4 v11 x1 hh5 (by omega) (xk_re K6.1) (by omega)
set_option maxHeartbeats 4000000 in
theorem lp_98_1 {J : xe_J} {ov : List (List Int32)} (hJ : ∀ d mj as h, mj ≠ xe_loff → J d mj as h = none) (hov1 : ov[1]? = some [10, 0, 0, 0, 0, 0]) (hov2 : ov[2]? = some [99, 30, 50, 50, 1, 99999]) {d : Nat} {Q : Option Value → xe_H → Prop} {hb : xe_H} (kk : (∀ (r : Int32) (h' : xe_H), xk [(0, 9), (115, 1), (83, 0), (29, 0), (31, 0), (33, 0), (35, 0), (37, 0), (39, 0), (41, 0), (43, 0), (45, 0), (47, 0), (49, 0), (51, 0), (125, 0), (66, 8), (115, 18), (71, 0), (132, 0)] hb h' → Q (some (.int r)) h')) : ∀ m : Nat, (∀ (x3 : Int32) (x4 : Int32) (x5 : Int32) (h : xe_H), (0 ≤ x5.toInt ∧ x5.toInt ≤ 601) → xk [(0, 9), (115, 1), (83, 0), (29, 0), (31, 0), (33, 0), (35, 0), (37, 0), (39, 0), (41, 0), (43, 0), (45, 0), (47, 0), (49, 0), (51, 0), (125, 0), (66, 8), (115, 18), (71, 0), (132, 0)] hb h → (-1) * x5.toInt + 601 < (m : Int) → xw J ov (d + 1) 98 (42, [(0, .ref 8), (3, .int x3), (4, .int x4), (5, .int x5)], [], h) Q) := by
  intro m
  induction m with
  | zero =>
    intro x3 x4 x5 h b5 K hm; have rx3 := xc_rng x3; have rx4 := xc_rng x4; exfalso; omega
  | succ m ih =>
    have i0 := ih
    intro x3 x4 x5 h b5 K hm
    have rx3 := xc_rng x3
    have rx4 := xc_rng x4
    refine xi_iload (pc' := 44) (x := x5) kc_98_42 rfl rfl ?_
    refine xi_aload_n (pc' := 45) (x := 8) kc_98_44 rfl rfl ?_
    refine xp_8 K.1 (fun u1 bu1 A2 => ?_)
    refine xi_getfield (pc' := 48) (v := .ref 9) kc_98_45 rfl rfl rfl A2 rfl ?_
    refine xcps4 (xk_arr K.1 xD_9) (fun y3 A3 hy3 ry3 => ?_)
    refine xi_arraylength (pc' := 49) (n := 601) (v := 601) kc_98_48 rfl (xl_lenI (by decide) (by decide) A3 hy3) rfl ?_
    by_cases c4 : 601 ≤ x5.toInt
    · refine xi_cmt (pc' := 88) kc_98_49 rfl (xc_ge_t (X := x5.toInt) (Y := 601) rfl (by decide) (by omega)) ?_
      refine xi_iload_n (pc' := 89) (x := x3) kc_98_88 rfl rfl ?_
      refine xi_ireturn kc_98_89 mr_98 rfl ?_
      exact kk x3 h K
    · refine xi_cmf (pc' := 52) kc_98_49 rfl (xc_ge_f (X := x5.toInt) (Y := 601) rfl (by decide) (by omega)) ?_
      refine xi_aload_n (pc' := 53) (x := 8) kc_98_52 rfl rfl ?_
      refine xi_getfield (pc' := 56) (v := .ref 9) kc_98_53 rfl rfl rfl A2 rfl ?_
      refine xi_iload (pc' := 58) (x := x5) kc_98_56 rfl rfl ?_
      refine xcps4 (xj_get hy3 ry3 (i := x5) (by omega) (by omega)) (fun v5 ev5 bv5 dv5 => ?_)
      refine xi_iaload (pc' := 59) (v := v5) kc_98_58 rfl A3 (by decide) rfl (xi_in (by omega) (by rw [hy3]; omega)) ev5 ?_
      refine xi_bipush (pc' := 61) (v := 99) kc_98_59 rfl rfl ?_
      by_cases c6 : v5.toInt = 99
      · refine xi_cmt (pc' := 73) kc_98_61 rfl (xc_eq_t (X := v5.toInt) (Y := 99) rfl (by decide) (by omega)) ?_
        refine xi_aload_n (pc' := 74) (x := 8) kc_98_73 rfl rfl ?_
        refine xi_getfield (pc' := 77) (v := .ref 10) kc_98_74 rfl rfl rfl A2 rfl ?_
        refine xi_iload (pc' := 79) (x := x5) kc_98_77 rfl rfl ?_
        refine xi_iload (pc' := 81) (x := x4) kc_98_79 rfl rfl ?_
        refine xcps4 (xk_arr K.1 xD_10) (fun y7 A7 hy7 ry7 => ?_)
        refine xcps4 (xj_set (v := x4) hy7 ry7 x5 (by first | omega | decide) (by first | omega | decide)) (fun y8 s8 hy8 ry8 => ?_)
        refine xi_iastore (pc' := 82) (x' := y8) kc_98_81 rfl A7 rfl (xi_in (by omega) (by rw [hy7]; omega)) s8 (fun hh8 eh8 => ?_)
        have K9 := xk_pa K (xk_wa rfl) xD_10 hy8 ry8 eh8
        refine xcps2 (α := Int32) (x5 + 1) (fun v10 ev10 => ?_)
        have zv10 : v10.toInt = (x5.toInt + 1) := by rw [← ev10]; exact (xz_add (X := x5.toInt) (Y := 1) rfl (by decide) (by omega) (by omega)).trans (by omega)
        refine xi_iinc (pc' := 85) (x := x5) (v := v10) (lv' := [(5, .int v10), (0, .ref 8), (3, .int x3), (4, .int x4)]) kc_98_82 rfl rfl ev10 rfl (xm_lt ml_98 rfl) ?_
        refine xi_goto (pc' := 42) kc_98_85 rfl ?_
        refine xw_lv (b := [(0, .ref 8), (3, .int x3), (4, .int x4), (5, .int v10)]) (lvS_cons (lvS_cons (lvS_cons (lvS_cons (lvS_nil (show ([5, 0, 3, 4] : List Nat).Nodup by decide)) rfl) rfl) rfl) rfl) ?_
        exact i0 x3 x4 v10 hh8 (by omega) K9 (by omega)
      · refine xi_cmf (pc' := 64) kc_98_61 rfl (xc_eq_f (X := v5.toInt) (Y := 99) rfl (by decide) (by omega)) ?_
        refine xi_aload_n (pc' := 65) (x := 8) kc_98_64 rfl rfl ?_
        refine xi_getfield (pc' := 68) (v := .ref 9) kc_98_65 rfl rfl rfl A2 rfl ?_
        refine xi_iload (pc' := 70) (x := x5) kc_98_68 rfl rfl ?_
        refine xi_iaload (pc' := 71) (v := v5) kc_98_70 rfl A3 (by decide) rfl (xi_in (by omega) (by rw [hy3]; omega)) ev5 ?_
        refine xi_istore (pc' := 73) (lv' := [(4, .int v5), (0, .ref 8), (3, .int x3), (5, .int x5)]) kc_98_71 rfl rfl (xm_lt ml_98 rfl) ?_
        refine xi_aload_n (pc' := 74) (x := 8) kc_98_73 rfl rfl ?_
        refine xi_getfield (pc' := 77) (v := .ref 10) kc_98_74 rfl rfl rfl A2 rfl ?_
        refine xi_iload (pc' := 79) (x := x5) kc_98_77 rfl rfl ?_
        refine xi_iload (pc' := 81) (x := v5) kc_98_79 rfl rfl ?_
        refine xcps4 (xk_arr K.1 xD_10) (fun y11 A11 hy11 ry11 => ?_)
        refine xcps4 (xj_set (v := v5) hy11 ry11 x5 (by first | omega | decide) (by first | omega | decide)) (fun y12 s12 hy12 ry12 => ?_)
        refine xi_iastore (pc' := 82) (x' := y12) kc_98_81 rfl A11 rfl (xi_in (by omega) (by rw [hy11]; omega)) s12 (fun hh12 eh12 => ?_)
        have K13 := xk_pa K (xk_wa rfl) xD_10 hy12 ry12 eh12
        refine xcps2 (α := Int32) (x5 + 1) (fun v14 ev14 => ?_)
        have zv14 : v14.toInt = (x5.toInt + 1) := by rw [← ev14]; exact (xz_add (X := x5.toInt) (Y := 1) rfl (by decide) (by omega) (by omega)).trans (by omega)
        refine xi_iinc (pc' := 85) (x := x5) (v := v14) (lv' := [(5, .int v14), (4, .int v5), (0, .ref 8), (3, .int x3)]) kc_98_82 rfl rfl ev14 rfl (xm_lt ml_98 rfl) ?_
        refine xi_goto (pc' := 42) kc_98_85 rfl ?_
        refine xw_lv (b := [(0, .ref 8), (3, .int x3), (4, .int v5), (5, .int v14)]) (lvS_cons (lvS_cons (lvS_cons (lvS_cons (lvS_nil (show ([5, 4, 0, 3] : List Nat).Nodup by decide)) rfl) rfl) rfl) rfl) ?_
        exact i0 x3 v5 v14 hh12 (by omega) K13 (by omega)
set_option maxHeartbeats 4000000 in
theorem mt_98_1 {J : xe_J} {ov : List (List Int32)} (hJ : ∀ d mj as h, mj ≠ xe_loff → J d mj as h = none) (hov1 : ov[1]? = some [10, 0, 0, 0, 0, 0]) (hov2 : ov[2]? = some [99, 30, 50, 50, 1, 99999]) {d : Nat} {Q : Option Value → xe_H → Prop} {h : xe_H} {x1 : Int32} {x2 : Int32} (T : xt h) (b1 : (0 ≤ x1.toInt ∧ x1.toInt ≤ 599)) (b2 : (0 ≤ x2.toInt ∧ x2.toInt ≤ 99)) (kk : (∀ (r : Int32) (h' : xe_H), xk [(0, 9), (115, 1), (83, 0), (29, 0), (31, 0), (33, 0), (35, 0), (37, 0), (39, 0), (41, 0), (43, 0), (45, 0), (47, 0), (49, 0), (51, 0), (125, 0), (66, 8), (115, 18), (71, 0), (132, 0)] h h' → Q (some (.int r)) h')) : xw J ov (d + 1) 98 (0, [(0, .ref 8), (1, .int x1), (2, .int x2)], [], h) Q := by
  have K : xk [(0, 9), (115, 1), (83, 0), (29, 0), (31, 0), (33, 0), (35, 0), (37, 0), (39, 0), (41, 0), (43, 0), (45, 0), (47, 0), (49, 0), (51, 0), (125, 0), (66, 8), (115, 18), (71, 0), (132, 0)] h h := xk_re T
  refine xi_iload_n (pc' := 1) (x := x1) kc_98_0 rfl rfl ?_
  refine xi_iff (pc' := 4) kc_98_1 rfl (xc_lt_f (X := x1.toInt) (Y := 0) rfl (by decide) (by omega)) ?_
  refine xi_iload_n (pc' := 5) (x := x1) kc_98_4 rfl rfl ?_
  refine xi_aload_n (pc' := 6) (x := 8) kc_98_5 rfl rfl ?_
  refine xp_8 K.1 (fun u1 bu1 A2 => ?_)
  refine xi_getfield (pc' := 9) (v := .ref 9) kc_98_6 rfl rfl rfl A2 rfl ?_
  refine xcps4 (xk_arr K.1 xD_9) (fun y3 A3 hy3 ry3 => ?_)
  refine xi_arraylength (pc' := 10) (n := 601) (v := 601) kc_98_9 rfl (xl_lenI (by decide) (by decide) A3 hy3) rfl ?_
  refine xi_cmt (pc' := 16) kc_98_10 rfl (xc_lt_t (X := x1.toInt) (Y := 601) rfl (by decide) (by omega)) ?_
  refine xi_aload_n (pc' := 17) (x := 8) kc_98_16 rfl rfl ?_
  refine xi_getfield (pc' := 20) (v := .ref 9) kc_98_17 rfl rfl rfl A2 rfl ?_
  refine xi_iload_n (pc' := 21) (x := x1) kc_98_20 rfl rfl ?_
  refine xcps4 (xj_get hy3 ry3 (i := x1) (by omega) (by omega)) (fun v4 ev4 bv4 dv4 => ?_)
  refine xi_iaload (pc' := 22) (v := v4) kc_98_21 rfl A3 (by decide) rfl (xi_in (by omega) (by rw [hy3]; omega)) ev4 ?_
  refine xi_istore_n (pc' := 23) (lv' := [(3, .int v4), (0, .ref 8), (1, .int x1), (2, .int x2)]) kc_98_22 rfl rfl (xm_lt ml_98 rfl) ?_
  refine xi_aload_n (pc' := 24) (x := 8) kc_98_23 rfl rfl ?_
  refine xi_getfield (pc' := 27) (v := .ref 9) kc_98_24 rfl rfl rfl A2 rfl ?_
  refine xi_iload_n (pc' := 28) (x := x1) kc_98_27 rfl rfl ?_
  refine xi_iload_n (pc' := 29) (x := x2) kc_98_28 rfl rfl ?_
  refine xcps4 (xj_set (v := x2) hy3 ry3 x1 (by first | omega | decide) (by first | omega | decide)) (fun y5 s5 hy5 ry5 => ?_)
  refine xi_iastore (pc' := 30) (x' := y5) kc_98_29 rfl A3 rfl (xi_in (by omega) (by rw [hy3]; omega)) s5 (fun hh5 eh5 => ?_)
  have K6 := xk_pa K (xk_wa rfl) xD_9 hy5 ry5 eh5
  refine xi_aload_n (pc' := 31) (x := 8) kc_98_30 rfl rfl ?_
  refine xi_iload_n (pc' := 32) (x := x1) kc_98_31 rfl rfl ?_
  refine xi_iconst (pc' := 33) (v := 1) kc_98_32 rfl rfl ?_
  refine xcps2 (α := Int32) (x1 - 1) (fun v7 ev7 => ?_)
  have zv7 : v7.toInt = (x1.toInt + (-1)) := by rw [← ev7]; exact (xz_sub (X := x1.toInt) (Y := 1) rfl (by decide) (by omega) (by omega)).trans (by omega)
  refine xi_isub (pc' := 34) (v := v7) kc_98_33 rfl ev7 ?_
  have A8 := ((eh5.2.1 8 (by decide)).trans A2)
  refine xi_virtual (mj := 99) (as := [.int v7]) (st1 := []) (lv0 := [(0, .ref 8), (1, .int v7)]) kc_98_34 rfl rfl rfl rfl rfl A8 (Nat.le_of_ble_eq_true rfl) (hJ _ _ _ _ (by decide)) (xm_le ml_99 rfl) rfl ?_
  refine xi_iload_n (pc' := 1) (x := v7) kc_99_0 rfl rfl ?_
  by_cases c9 : (x1.toInt + (-1)) < 0
  · refine xi_ift (pc' := 13) kc_99_1 rfl (xc_lt_t (X := (x1.toInt + (-1))) (Y := 0) zv7 (by decide) (by omega)) ?_
    refine xi_aload_n (pc' := 14) (x := 8) kc_99_13 rfl rfl ?_
    refine xi_getfield (pc' := 17) (v := .int u1) kc_99_14 rfl rfl rfl A8 rfl ?_
    refine xi_goto (pc' := 26) kc_99_17 rfl ?_
    refine xi_ireturn kc_99_26 mr_99 rfl ?_
    show xw J ov (d + 1) 98 (37, [(3, .int v4), (0, .ref 8), (1, .int x1), (2, .int x2)], [.int u1], hh5) _
    refine xi_istore (pc' := 39) (lv' := [(4, .int u1), (3, .int v4), (0, .ref 8), (1, .int x1), (2, .int x2)]) kc_98_37 rfl rfl (xm_lt ml_98 rfl) ?_
    refine xi_iload_n (pc' := 40) (x := x1) kc_98_39 rfl rfl ?_
    refine xi_istore (pc' := 42) (lv' := [(5, .int x1), (4, .int u1), (3, .int v4), (0, .ref 8), (1, .int x1), (2, .int x2)]) kc_98_40 rfl rfl (xm_lt ml_98 rfl) ?_
    refine xw_lv (b := [(0, .ref 8), (3, .int v4), (4, .int u1), (5, .int x1)]) (lvS_cons (lvS_cons (lvS_cons (lvS_cons (lvS_nil (show ([5, 4, 3, 0, 1, 2] : List Nat).Nodup by decide)) rfl) rfl) rfl) rfl) ?_
    exact (lp_98_1 hJ hov1 hov2 (d := d) (hb := hh5) (fun r9 h9 K9 => kk r9 h9 (xk_tr K6 K9 rfl)) 602) v4 u1 x1 hh5 (by omega) (xk_re K6.1) (by omega)
  · refine xi_iff (pc' := 4) kc_99_1 rfl (xc_lt_f (X := (x1.toInt + (-1))) (Y := 0) zv7 (by decide) (by omega)) ?_
    refine xi_iload_n (pc' := 5) (x := v7) kc_99_4 rfl rfl ?_
    refine xi_aload_n (pc' := 6) (x := 8) kc_99_5 rfl rfl ?_
    refine xi_getfield (pc' := 9) (v := .ref 10) kc_99_6 rfl rfl rfl A8 rfl ?_
    refine xcps4 (xk_arr K6.1 xD_10) (fun y10 A10 hy10 ry10 => ?_)
    refine xi_arraylength (pc' := 10) (n := 601) (v := 601) kc_99_9 rfl (xl_lenI (by decide) (by decide) A10 hy10) rfl ?_
    refine xi_cmt (pc' := 20) kc_99_10 rfl (xc_lt_t (X := (x1.toInt + (-1))) (Y := 601) zv7 (by decide) (by omega)) ?_
    refine xi_aload_n (pc' := 21) (x := 8) kc_99_20 rfl rfl ?_
    refine xi_getfield (pc' := 24) (v := .ref 10) kc_99_21 rfl rfl rfl A8 rfl ?_
    refine xi_iload_n (pc' := 25) (x := v7) kc_99_24 rfl rfl ?_
    refine xcps4 (xj_get hy10 ry10 (i := v7) (by rw [zv7]; omega) (by rw [zv7]; omega)) (fun v11 ev11 bv11 dv11 => ?_)
    refine xi_iaload (pc' := 26) (v := v11) kc_99_25 rfl A10 (by decide) rfl (xi_in (by rw [zv7]; omega) (by rw [hy10]; rw [zv7]; omega)) ev11 ?_
    refine xi_ireturn kc_99_26 mr_99 rfl ?_
    show xw J ov (d + 1) 98 (37, [(3, .int v4), (0, .ref 8), (1, .int x1), (2, .int x2)], [.int v11], hh5) _
    refine xi_istore (pc' := 39) (lv' := [(4, .int v11), (3, .int v4), (0, .ref 8), (1, .int x1), (2, .int x2)]) kc_98_37 rfl rfl (xm_lt ml_98 rfl) ?_
    refine xi_iload_n (pc' := 40) (x := x1) kc_98_39 rfl rfl ?_
    refine xi_istore (pc' := 42) (lv' := [(5, .int x1), (4, .int v11), (3, .int v4), (0, .ref 8), (1, .int x1), (2, .int x2)]) kc_98_40 rfl rfl (xm_lt ml_98 rfl) ?_
    refine xw_lv (b := [(0, .ref 8), (3, .int v4), (4, .int v11), (5, .int x1)]) (lvS_cons (lvS_cons (lvS_cons (lvS_cons (lvS_nil (show ([5, 4, 3, 0, 1, 2] : List Nat).Nodup by decide)) rfl) rfl) rfl) rfl) ?_
    exact (lp_98_1 hJ hov1 hov2 (d := d) (hb := hh5) (fun r9 h9 K9 => kk r9 h9 (xk_tr K6 K9 rfl)) 602) v4 v11 x1 hh5 (by omega) (xk_re K6.1) (by omega)
set_option maxHeartbeats 4000000 in
theorem mt_95_0 {J : xe_J} {ov : List (List Int32)} (hJ : ∀ d mj as h, mj ≠ xe_loff → J d mj as h = none) (hov1 : ov[1]? = some [10, 0, 0, 0, 0, 0]) (hov2 : ov[2]? = some [99, 30, 50, 50, 1, 99999]) {d : Nat} {Q : Option Value → xe_H → Prop} {h : xe_H} {x1 : Int32} {x2 : Int32} {x3 : Int32} (T : xt h) (kk : (∀ (r : Int32) (h' : xe_H), xk [(0, 9), (115, 1), (83, 0), (29, 0), (31, 0), (33, 0), (35, 0), (37, 0), (39, 0), (41, 0), (43, 0), (45, 0), (47, 0), (49, 0), (51, 0), (125, 0), (66, 8), (115, 18), (71, 0), (132, 0)] h h' → Q (some (.int r)) h')) : xw J ov (d + 2) 95 (0, [(0, .ref 0), (1, .int x1), (2, .int x2), (3, .int x3)], [], h) Q := by
  have K : xk [(0, 9), (115, 1), (83, 0), (29, 0), (31, 0), (33, 0), (35, 0), (37, 0), (39, 0), (41, 0), (43, 0), (45, 0), (47, 0), (49, 0), (51, 0), (125, 0), (66, 8), (115, 18), (71, 0), (132, 0)] h h := xk_re T
  have rx1 := xc_rng x1
  have rx2 := xc_rng x2
  have rx3 := xc_rng x3
  refine xi_iload_n (pc' := 1) (x := x2) kc_95_0 rfl rfl ?_
  by_cases c1 : x2.toInt = 0
  · refine xi_ift (pc' := 16) kc_95_1 rfl (xc_eq_t (X := x2.toInt) (Y := 0) rfl (by decide) (by omega)) ?_
    refine xi_iload_n (pc' := 17) (x := x2) kc_95_16 rfl rfl ?_
    refine xi_iff (pc' := 20) kc_95_17 rfl (xc_ne_f (X := x2.toInt) (Y := 0) rfl (by decide) (by omega)) ?_
    refine xi_bipush (pc' := 22) (v := (-20)) kc_95_20 rfl rfl ?_
    refine xi_goto (pc' := 26) kc_95_22 rfl ?_
    refine xi_istore (pc' := 28) (lv' := [(4, .int (-20)), (0, .ref 0), (1, .int x1), (2, .int x2), (3, .int x3)]) kc_95_26 rfl rfl (xm_lt ml_95 rfl) ?_
    refine xi_iload_n (pc' := 29) (x := x2) kc_95_28 rfl rfl ?_
    refine xi_iff (pc' := 32) kc_95_29 rfl (xc_ne_f (X := x2.toInt) (Y := 0) rfl (by decide) (by omega)) ?_
    refine xi_bipush (pc' := 34) (v := 30) kc_95_32 rfl rfl ?_
    refine xi_goto (pc' := 39) kc_95_34 rfl ?_
    refine xi_istore (pc' := 41) (lv' := [(5, .int 30), (4, .int (-20)), (0, .ref 0), (1, .int x1), (2, .int x2), (3, .int x3)]) kc_95_39 rfl rfl (xm_lt ml_95 rfl) ?_
    refine xi_iload_n (pc' := 42) (x := x1) kc_95_41 rfl rfl ?_
    by_cases c2 : x1.toInt < 0
    · refine xi_ift (pc' := 51) kc_95_42 rfl (xc_lt_t (X := x1.toInt) (Y := 0) rfl (by decide) (by omega)) ?_
      refine xi_aload_n (pc' := 52) (x := 0) kc_95_51 rfl rfl ?_
      refine xi_bipush (pc' := 54) (v := (-4)) kc_95_52 rfl rfl ?_
      refine xp_0 K.1 (fun u3 u4 bu3 bu4 A5 => ?_)
      refine xi_virtual (mj := 96) (as := [.int (-4)]) (st1 := []) (lv0 := [(0, .ref 0), (1, .int (-4))]) kc_95_54 rfl rfl rfl rfl rfl A5 (Nat.le_of_ble_eq_true rfl) (hJ _ _ _ _ (by decide)) (xm_le ml_96 rfl) rfl ?_
      refine xi_ldc_w (pc' := 3) (v := 1000000000) kc_96_0 rfl rfl ?_
      refine xi_aload_n (pc' := 4) (x := 0) kc_96_3 rfl rfl ?_
      refine xi_iload_n (pc' := 5) (x := (-4)) kc_96_4 rfl rfl ?_
      refine xi_virtual (mj := 90) (as := [.int (-4)]) (st1 := [.int 1000000000]) (lv0 := [(0, .ref 0), (1, .int (-4))]) kc_96_5 rfl rfl rfl rfl rfl A5 (Nat.le_of_ble_eq_true rfl) (hJ _ _ _ _ (by decide)) (xm_le ml_90 rfl) rfl ?_
      refine xi_iload_n (pc' := 1) (x := (-4)) kc_90_0 rfl rfl ?_
      refine xi_ineg (pc' := 2) (v := 4) kc_90_1 rfl rfl ?_
      refine xi_istore_n (pc' := 3) (lv' := [(2, .int 4), (0, .ref 0), (1, .int (-4))]) kc_90_2 rfl rfl (xm_lt ml_90 rfl) ?_
      refine xi_iload_n (pc' := 4) (x := 4) kc_90_3 rfl rfl ?_
      refine xi_iff (pc' := 7) kc_90_4 rfl rfl ?_
      refine xi_iload_n (pc' := 8) (x := 4) kc_90_7 rfl rfl ?_
      refine xi_aload_n (pc' := 9) (x := 0) kc_90_8 rfl rfl ?_
      refine xi_getfield (pc' := 12) (v := .ref 94) kc_90_9 rfl rfl rfl A5 rfl ?_
      refine xcps4 (xk_arr K.1 xD_94) (fun y6 A6 hy6 ry6 => ?_)
      refine xi_arraylength (pc' := 13) (n := 7) (v := 7) kc_90_12 rfl (xl_lenI (by decide) (by decide) A6 hy6) rfl ?_
      refine xi_cmf (pc' := 16) kc_90_13 rfl rfl ?_
      refine xi_aload_n (pc' := 17) (x := 0) kc_90_16 rfl rfl ?_
      refine xi_getfield (pc' := 20) (v := .ref 94) kc_90_17 rfl rfl rfl A5 rfl ?_
      refine xi_iload_n (pc' := 21) (x := 4) kc_90_20 rfl rfl ?_
      refine xi_dup2 (pc' := 22) kc_90_21 rfl ⟨rfl, rfl⟩ ?_
      refine xcps4 (xj_get hy6 ry6 (i := 4) (by decide) (by decide)) (fun v7 ev7 bv7 dv7 => ?_)
      refine xi_iaload (pc' := 23) (v := v7) kc_90_22 rfl A6 (by decide) rfl (xi_in (by decide) (by rw [hy6]; decide)) ev7 ?_
      refine xi_iconst (pc' := 24) (v := 1) kc_90_23 rfl rfl ?_
      refine xcps2 (α := Int32) ((v7 : Int32) + 1) (fun v8 ev8 => ?_)
      have rv8 := xc_rng v8
      refine xi_iadd (pc' := 25) (v := v8) kc_90_24 rfl ev8 ?_
      refine xcps4 (xj_set (v := v8) hy6 ry6 4 (by first | omega | decide) (by first | omega | decide)) (fun y9 s9 hy9 ry9 => ?_)
      refine xi_iastore (pc' := 26) (x' := y9) kc_90_25 rfl A6 rfl (xi_in (by decide) (by rw [hy6]; decide)) s9 (fun hh9 eh9 => ?_)
      have K10 := xk_pa K (xk_wa rfl) xD_94 hy9 ry9 eh9
      refine xi_iload_n (pc' := 27) (x := (-4)) kc_90_26 rfl rfl ?_
      refine xi_ireturn kc_90_27 mr_90 rfl ?_
      show xw J ov (d + 1) 96 (8, [(0, .ref 0), (1, .int (-4))], [.int (-4), .int 1000000000], hh9) _
      refine xi_isub (pc' := 9) (v := 1000000004) kc_96_8 rfl rfl ?_
      refine xi_ireturn kc_96_9 mr_96 rfl ?_
      show xw J ov (d + 2) 95 (57, [(5, .int 30), (4, .int (-20)), (0, .ref 0), (1, .int x1), (2, .int x2), (3, .int x3)], [.int 1000000004], hh9) _
      refine xi_ireturn kc_95_57 mr_95 rfl ?_
      have zc1000000004 : (1000000004 : Int32).toInt = 1000000004 := by decide
      exact kk 1000000004 hh9 K10
    · refine xi_iff (pc' := 45) kc_95_42 rfl (xc_lt_f (X := x1.toInt) (Y := 0) rfl (by decide) (by omega)) ?_
      refine xi_iload_n (pc' := 46) (x := x3) kc_95_45 rfl rfl ?_
      refine xi_iload (pc' := 48) (x := (-20)) kc_95_46 rfl rfl ?_
      by_cases c11 : (-20) ≤ x3.toInt
      · refine xi_cmt (pc' := 58) kc_95_48 rfl (xc_ge_t (X := x3.toInt) (Y := (-20)) rfl (by decide) (by omega)) ?_
        refine xi_iload_n (pc' := 59) (x := x1) kc_95_58 rfl rfl ?_
        refine xi_sipush (pc' := 62) (v := 600) kc_95_59 rfl rfl ?_
        by_cases c12 : 600 ≤ x1.toInt
        · refine xi_cmt (pc' := 77) kc_95_62 rfl (xc_ge_t (X := x1.toInt) (Y := 600) rfl (by decide) (by omega)) ?_
          refine xi_aload_n (pc' := 78) (x := 0) kc_95_77 rfl rfl ?_
          refine xi_bipush (pc' := 80) (v := (-6)) kc_95_78 rfl rfl ?_
          refine xp_0 K.1 (fun u13 u14 bu13 bu14 A15 => ?_)
          refine xi_virtual (mj := 96) (as := [.int (-6)]) (st1 := []) (lv0 := [(0, .ref 0), (1, .int (-6))]) kc_95_80 rfl rfl rfl rfl rfl A15 (Nat.le_of_ble_eq_true rfl) (hJ _ _ _ _ (by decide)) (xm_le ml_96 rfl) rfl ?_
          refine xi_ldc_w (pc' := 3) (v := 1000000000) kc_96_0 rfl rfl ?_
          refine xi_aload_n (pc' := 4) (x := 0) kc_96_3 rfl rfl ?_
          refine xi_iload_n (pc' := 5) (x := (-6)) kc_96_4 rfl rfl ?_
          refine xi_virtual (mj := 90) (as := [.int (-6)]) (st1 := [.int 1000000000]) (lv0 := [(0, .ref 0), (1, .int (-6))]) kc_96_5 rfl rfl rfl rfl rfl A15 (Nat.le_of_ble_eq_true rfl) (hJ _ _ _ _ (by decide)) (xm_le ml_90 rfl) rfl ?_
          refine xi_iload_n (pc' := 1) (x := (-6)) kc_90_0 rfl rfl ?_
          refine xi_ineg (pc' := 2) (v := 6) kc_90_1 rfl rfl ?_
          refine xi_istore_n (pc' := 3) (lv' := [(2, .int 6), (0, .ref 0), (1, .int (-6))]) kc_90_2 rfl rfl (xm_lt ml_90 rfl) ?_
          refine xi_iload_n (pc' := 4) (x := 6) kc_90_3 rfl rfl ?_
          refine xi_iff (pc' := 7) kc_90_4 rfl rfl ?_
          refine xi_iload_n (pc' := 8) (x := 6) kc_90_7 rfl rfl ?_
          refine xi_aload_n (pc' := 9) (x := 0) kc_90_8 rfl rfl ?_
          refine xi_getfield (pc' := 12) (v := .ref 94) kc_90_9 rfl rfl rfl A15 rfl ?_
          refine xcps4 (xk_arr K.1 xD_94) (fun y16 A16 hy16 ry16 => ?_)
          refine xi_arraylength (pc' := 13) (n := 7) (v := 7) kc_90_12 rfl (xl_lenI (by decide) (by decide) A16 hy16) rfl ?_
          refine xi_cmf (pc' := 16) kc_90_13 rfl rfl ?_
          refine xi_aload_n (pc' := 17) (x := 0) kc_90_16 rfl rfl ?_
          refine xi_getfield (pc' := 20) (v := .ref 94) kc_90_17 rfl rfl rfl A15 rfl ?_
          refine xi_iload_n (pc' := 21) (x := 6) kc_90_20 rfl rfl ?_
          refine xi_dup2 (pc' := 22) kc_90_21 rfl ⟨rfl, rfl⟩ ?_
          refine xcps4 (xj_get hy16 ry16 (i := 6) (by decide) (by decide)) (fun v17 ev17 bv17 dv17 => ?_)
          refine xi_iaload (pc' := 23) (v := v17) kc_90_22 rfl A16 (by decide) rfl (xi_in (by decide) (by rw [hy16]; decide)) ev17 ?_
          refine xi_iconst (pc' := 24) (v := 1) kc_90_23 rfl rfl ?_
          refine xcps2 (α := Int32) ((v17 : Int32) + 1) (fun v18 ev18 => ?_)
          have rv18 := xc_rng v18
          refine xi_iadd (pc' := 25) (v := v18) kc_90_24 rfl ev18 ?_
          refine xcps4 (xj_set (v := v18) hy16 ry16 6 (by first | omega | decide) (by first | omega | decide)) (fun y19 s19 hy19 ry19 => ?_)
          refine xi_iastore (pc' := 26) (x' := y19) kc_90_25 rfl A16 rfl (xi_in (by decide) (by rw [hy16]; decide)) s19 (fun hh19 eh19 => ?_)
          have K20 := xk_pa K (xk_wa rfl) xD_94 hy19 ry19 eh19
          refine xi_iload_n (pc' := 27) (x := (-6)) kc_90_26 rfl rfl ?_
          refine xi_ireturn kc_90_27 mr_90 rfl ?_
          show xw J ov (d + 1) 96 (8, [(0, .ref 0), (1, .int (-6))], [.int (-6), .int 1000000000], hh19) _
          refine xi_isub (pc' := 9) (v := 1000000006) kc_96_8 rfl rfl ?_
          refine xi_ireturn kc_96_9 mr_96 rfl ?_
          show xw J ov (d + 2) 95 (83, [(5, .int 30), (4, .int (-20)), (0, .ref 0), (1, .int x1), (2, .int x2), (3, .int x3)], [.int 1000000006], hh19) _
          refine xi_ireturn kc_95_83 mr_95 rfl ?_
          have zc1000000006 : (1000000006 : Int32).toInt = 1000000006 := by decide
          exact kk 1000000006 hh19 K20
        · refine xi_cmf (pc' := 65) kc_95_62 rfl (xc_ge_f (X := x1.toInt) (Y := 600) rfl (by decide) (by omega)) ?_
          refine xi_iload_n (pc' := 66) (x := x3) kc_95_65 rfl rfl ?_
          refine xi_iload (pc' := 68) (x := 30) kc_95_66 rfl rfl ?_
          by_cases c21 : x3.toInt ≤ 30
          · refine xi_cmt (pc' := 84) kc_95_68 rfl (xc_le_t (X := x3.toInt) (Y := 30) rfl (by decide) (by omega)) ?_
            refine xi_aload_n (pc' := 85) (x := 0) kc_95_84 rfl rfl ?_
            refine xp_0 K.1 (fun u22 u23 bu22 bu23 A24 => ?_)
            refine xi_getfield (pc' := 88) (v := .ref 66) kc_95_85 rfl rfl rfl A24 rfl ?_
            refine xp_66 K.1 (fun u26 wl25 bu26 A27 => ?_)
            refine xi_virtual (mj := 91) (as := []) (st1 := []) (lv0 := [(0, .ref 66)]) kc_95_88 rfl rfl rfl rfl rfl A27 (Nat.le_of_ble_eq_true rfl) (hJ _ _ _ _ (by decide)) (xm_le ml_91 rfl) rfl ?_
            refine xi_aload_n (pc' := 1) (x := 66) kc_91_0 rfl rfl ?_
            refine xi_lconst (pc' := 2) (v := 0) kc_91_1 rfl rfl ?_
            refine xi_putfield (pc' := 5) (fs' := [.ref 1, .ref 67, .ref 70, .ref 71, .ref 72, .ref 73, .ref 74, .long 0, .int u26]) kc_91_2 rfl rfl rfl A27 rfl rfl rfl (Nat.le_of_ble_eq_true rfl) rfl (fun hh29 eh28 => ?_)
            have K30 := xk_pl (k := 7) (v := 0) K (xk_wf rfl) xD_66 A27 rfl eh28 rfl
            refine xi_return kc_91_5 mr_91 ?_
            show xw J ov (d + 2) 95 (91, [(5, .int 30), (4, .int (-20)), (0, .ref 0), (1, .int x1), (2, .int x2), (3, .int x3)], [], hh29) _
            refine xi_aload_n (pc' := 92) (x := 0) kc_95_91 rfl rfl ?_
            have A31 := ((eh28.2.1 0 (by decide)).trans A24)
            refine xi_getfield (pc' := 95) (v := .ref 1) kc_95_92 rfl rfl rfl A31 rfl ?_
            refine xi_iload_n (pc' := 96) (x := x2) kc_95_95 rfl rfl ?_
            refine xp_1 K30.1 (fun u32 u33 bu32 bu33 A34 => ?_)
            refine xi_virtual (mj := 97) (as := [.int x2]) (st1 := []) (lv0 := [(0, .ref 1), (1, .int x2)]) kc_95_96 rfl rfl rfl rfl rfl A34 (Nat.le_of_ble_eq_true rfl) (hJ _ _ _ _ (by decide)) (xm_le ml_97 rfl) rfl ?_
            refine xi_iload_n (pc' := 1) (x := x2) kc_97_0 rfl rfl ?_
            refine xi_iff (pc' := 4) kc_97_1 rfl (xc_ne_f (X := x2.toInt) (Y := 0) rfl (by decide) (by omega)) ?_
            refine xi_aload_n (pc' := 5) (x := 1) kc_97_4 rfl rfl ?_
            refine xi_getfield (pc' := 8) (v := .ref 5) kc_97_5 rfl rfl rfl A34 rfl ?_
            refine xi_goto (pc' := 15) kc_97_8 rfl ?_
            refine xi_areturn kc_97_15 (by rw [mr_97]; rfl) ?_
            show xw J ov (d + 2) 95 (99, [(5, .int 30), (4, .int (-20)), (0, .ref 0), (1, .int x1), (2, .int x2), (3, .int x3)], [.ref 5], hh29) _
            refine xi_iload_n (pc' := 100) (x := x1) kc_95_99 rfl rfl ?_
            refine xi_iload_n (pc' := 101) (x := x3) kc_95_100 rfl rfl ?_
            refine xp_5 K30.1 (fun u35 bu35 A36 => ?_)
            refine xi_virtual (mj := 98) (as := [.int x1, .int x3]) (st1 := []) (lv0 := [(0, .ref 5), (1, .int x1), (2, .int x3)]) kc_95_101 rfl rfl rfl rfl rfl A36 (Nat.le_of_ble_eq_true rfl) (hJ _ _ _ _ (by decide)) (xm_le ml_98 rfl) rfl ?_
            refine mt_98_0 hJ hov1 hov2 (d := d) (x1 := x1) (x2 := x3) K30.1 (by first | omega | decide) (by first | omega | decide) (fun r37 hh38 K39 => ?_)
            have br37 := xc_rng r37
            have K40 := xk_tr K30 K39 rfl
            refine xp_0 K40.1 (fun u41 u42 bu41 bu42 A43 => ?_)
            have e44 : u23 = u42 := xk_eqi (q := 9) K39 rfl A31 A43 rfl rfl
            subst e44
            refine xp_66 K40.1 (fun u46 wl45 bu46 A47 => ?_)
            have e48 : u26 = u46 := xk_eqi (q := 8) K39 rfl eh28.1 A47 rfl rfl
            subst e48
            show xw J ov (d + 2) 95 (104, [(5, .int 30), (4, .int (-20)), (0, .ref 0), (1, .int x1), (2, .int x2), (3, .int x3)], [.int r37], hh38) _
            refine xi_ireturn kc_95_104 mr_95 rfl ?_
            exact kk r37 hh38 K40
          · refine xi_cmf (pc' := 71) kc_95_68 rfl (xc_le_f (X := x3.toInt) (Y := 30) rfl (by decide) (by omega)) ?_
            refine xi_iload_n (pc' := 72) (x := x3) kc_95_71 rfl rfl ?_
            refine xi_bipush (pc' := 74) (v := 99) kc_95_72 rfl rfl ?_
            by_cases c49 : x3.toInt = 99
            · refine xi_cmt (pc' := 84) kc_95_74 rfl (xc_eq_t (X := x3.toInt) (Y := 99) rfl (by decide) (by omega)) ?_
              refine xi_aload_n (pc' := 85) (x := 0) kc_95_84 rfl rfl ?_
              refine xp_0 K.1 (fun u50 u51 bu50 bu51 A52 => ?_)
              refine xi_getfield (pc' := 88) (v := .ref 66) kc_95_85 rfl rfl rfl A52 rfl ?_
              refine xp_66 K.1 (fun u54 wl53 bu54 A55 => ?_)
              refine xi_virtual (mj := 91) (as := []) (st1 := []) (lv0 := [(0, .ref 66)]) kc_95_88 rfl rfl rfl rfl rfl A55 (Nat.le_of_ble_eq_true rfl) (hJ _ _ _ _ (by decide)) (xm_le ml_91 rfl) rfl ?_
              refine xi_aload_n (pc' := 1) (x := 66) kc_91_0 rfl rfl ?_
              refine xi_lconst (pc' := 2) (v := 0) kc_91_1 rfl rfl ?_
              refine xi_putfield (pc' := 5) (fs' := [.ref 1, .ref 67, .ref 70, .ref 71, .ref 72, .ref 73, .ref 74, .long 0, .int u54]) kc_91_2 rfl rfl rfl A55 rfl rfl rfl (Nat.le_of_ble_eq_true rfl) rfl (fun hh57 eh56 => ?_)
              have K58 := xk_pl (k := 7) (v := 0) K (xk_wf rfl) xD_66 A55 rfl eh56 rfl
              refine xi_return kc_91_5 mr_91 ?_
              show xw J ov (d + 2) 95 (91, [(5, .int 30), (4, .int (-20)), (0, .ref 0), (1, .int x1), (2, .int x2), (3, .int x3)], [], hh57) _
              refine xi_aload_n (pc' := 92) (x := 0) kc_95_91 rfl rfl ?_
              have A59 := ((eh56.2.1 0 (by decide)).trans A52)
              refine xi_getfield (pc' := 95) (v := .ref 1) kc_95_92 rfl rfl rfl A59 rfl ?_
              refine xi_iload_n (pc' := 96) (x := x2) kc_95_95 rfl rfl ?_
              refine xp_1 K58.1 (fun u60 u61 bu60 bu61 A62 => ?_)
              refine xi_virtual (mj := 97) (as := [.int x2]) (st1 := []) (lv0 := [(0, .ref 1), (1, .int x2)]) kc_95_96 rfl rfl rfl rfl rfl A62 (Nat.le_of_ble_eq_true rfl) (hJ _ _ _ _ (by decide)) (xm_le ml_97 rfl) rfl ?_
              refine xi_iload_n (pc' := 1) (x := x2) kc_97_0 rfl rfl ?_
              refine xi_iff (pc' := 4) kc_97_1 rfl (xc_ne_f (X := x2.toInt) (Y := 0) rfl (by decide) (by omega)) ?_
              refine xi_aload_n (pc' := 5) (x := 1) kc_97_4 rfl rfl ?_
              refine xi_getfield (pc' := 8) (v := .ref 5) kc_97_5 rfl rfl rfl A62 rfl ?_
              refine xi_goto (pc' := 15) kc_97_8 rfl ?_
              refine xi_areturn kc_97_15 (by rw [mr_97]; rfl) ?_
              show xw J ov (d + 2) 95 (99, [(5, .int 30), (4, .int (-20)), (0, .ref 0), (1, .int x1), (2, .int x2), (3, .int x3)], [.ref 5], hh57) _
              refine xi_iload_n (pc' := 100) (x := x1) kc_95_99 rfl rfl ?_
              refine xi_iload_n (pc' := 101) (x := x3) kc_95_100 rfl rfl ?_
              refine xp_5 K58.1 (fun u63 bu63 A64 => ?_)
              refine xi_virtual (mj := 98) (as := [.int x1, .int x3]) (st1 := []) (lv0 := [(0, .ref 5), (1, .int x1), (2, .int x3)]) kc_95_101 rfl rfl rfl rfl rfl A64 (Nat.le_of_ble_eq_true rfl) (hJ _ _ _ _ (by decide)) (xm_le ml_98 rfl) rfl ?_
              refine mt_98_0 hJ hov1 hov2 (d := d) (x1 := x1) (x2 := x3) K58.1 (by first | omega | decide) (by first | omega | decide) (fun r65 hh66 K67 => ?_)
              have br65 := xc_rng r65
              have K68 := xk_tr K58 K67 rfl
              refine xp_0 K68.1 (fun u69 u70 bu69 bu70 A71 => ?_)
              have e72 : u51 = u70 := xk_eqi (q := 9) K67 rfl A59 A71 rfl rfl
              subst e72
              refine xp_66 K68.1 (fun u74 wl73 bu74 A75 => ?_)
              have e76 : u54 = u74 := xk_eqi (q := 8) K67 rfl eh56.1 A75 rfl rfl
              subst e76
              show xw J ov (d + 2) 95 (104, [(5, .int 30), (4, .int (-20)), (0, .ref 0), (1, .int x1), (2, .int x2), (3, .int x3)], [.int r65], hh66) _
              refine xi_ireturn kc_95_104 mr_95 rfl ?_
              exact kk r65 hh66 K68
            · refine xi_cmf (pc' := 77) kc_95_74 rfl (xc_eq_f (X := x3.toInt) (Y := 99) rfl (by decide) (by omega)) ?_
              refine xi_aload_n (pc' := 78) (x := 0) kc_95_77 rfl rfl ?_
              refine xi_bipush (pc' := 80) (v := (-6)) kc_95_78 rfl rfl ?_
              refine xp_0 K.1 (fun u77 u78 bu77 bu78 A79 => ?_)
              refine xi_virtual (mj := 96) (as := [.int (-6)]) (st1 := []) (lv0 := [(0, .ref 0), (1, .int (-6))]) kc_95_80 rfl rfl rfl rfl rfl A79 (Nat.le_of_ble_eq_true rfl) (hJ _ _ _ _ (by decide)) (xm_le ml_96 rfl) rfl ?_
              refine xi_ldc_w (pc' := 3) (v := 1000000000) kc_96_0 rfl rfl ?_
              refine xi_aload_n (pc' := 4) (x := 0) kc_96_3 rfl rfl ?_
              refine xi_iload_n (pc' := 5) (x := (-6)) kc_96_4 rfl rfl ?_
              refine xi_virtual (mj := 90) (as := [.int (-6)]) (st1 := [.int 1000000000]) (lv0 := [(0, .ref 0), (1, .int (-6))]) kc_96_5 rfl rfl rfl rfl rfl A79 (Nat.le_of_ble_eq_true rfl) (hJ _ _ _ _ (by decide)) (xm_le ml_90 rfl) rfl ?_
              refine xi_iload_n (pc' := 1) (x := (-6)) kc_90_0 rfl rfl ?_
              refine xi_ineg (pc' := 2) (v := 6) kc_90_1 rfl rfl ?_
              refine xi_istore_n (pc' := 3) (lv' := [(2, .int 6), (0, .ref 0), (1, .int (-6))]) kc_90_2 rfl rfl (xm_lt ml_90 rfl) ?_
              refine xi_iload_n (pc' := 4) (x := 6) kc_90_3 rfl rfl ?_
              refine xi_iff (pc' := 7) kc_90_4 rfl rfl ?_
              refine xi_iload_n (pc' := 8) (x := 6) kc_90_7 rfl rfl ?_
              refine xi_aload_n (pc' := 9) (x := 0) kc_90_8 rfl rfl ?_
              refine xi_getfield (pc' := 12) (v := .ref 94) kc_90_9 rfl rfl rfl A79 rfl ?_
              refine xcps4 (xk_arr K.1 xD_94) (fun y80 A80 hy80 ry80 => ?_)
              refine xi_arraylength (pc' := 13) (n := 7) (v := 7) kc_90_12 rfl (xl_lenI (by decide) (by decide) A80 hy80) rfl ?_
              refine xi_cmf (pc' := 16) kc_90_13 rfl rfl ?_
              refine xi_aload_n (pc' := 17) (x := 0) kc_90_16 rfl rfl ?_
              refine xi_getfield (pc' := 20) (v := .ref 94) kc_90_17 rfl rfl rfl A79 rfl ?_
              refine xi_iload_n (pc' := 21) (x := 6) kc_90_20 rfl rfl ?_
              refine xi_dup2 (pc' := 22) kc_90_21 rfl ⟨rfl, rfl⟩ ?_
              refine xcps4 (xj_get hy80 ry80 (i := 6) (by decide) (by decide)) (fun v81 ev81 bv81 dv81 => ?_)
              refine xi_iaload (pc' := 23) (v := v81) kc_90_22 rfl A80 (by decide) rfl (xi_in (by decide) (by rw [hy80]; decide)) ev81 ?_
              refine xi_iconst (pc' := 24) (v := 1) kc_90_23 rfl rfl ?_
              refine xcps2 (α := Int32) ((v81 : Int32) + 1) (fun v82 ev82 => ?_)
              have rv82 := xc_rng v82
              refine xi_iadd (pc' := 25) (v := v82) kc_90_24 rfl ev82 ?_
              refine xcps4 (xj_set (v := v82) hy80 ry80 6 (by first | omega | decide) (by first | omega | decide)) (fun y83 s83 hy83 ry83 => ?_)
              refine xi_iastore (pc' := 26) (x' := y83) kc_90_25 rfl A80 rfl (xi_in (by decide) (by rw [hy80]; decide)) s83 (fun hh83 eh83 => ?_)
              have K84 := xk_pa K (xk_wa rfl) xD_94 hy83 ry83 eh83
              refine xi_iload_n (pc' := 27) (x := (-6)) kc_90_26 rfl rfl ?_
              refine xi_ireturn kc_90_27 mr_90 rfl ?_
              show xw J ov (d + 1) 96 (8, [(0, .ref 0), (1, .int (-6))], [.int (-6), .int 1000000000], hh83) _
              refine xi_isub (pc' := 9) (v := 1000000006) kc_96_8 rfl rfl ?_
              refine xi_ireturn kc_96_9 mr_96 rfl ?_
              show xw J ov (d + 2) 95 (83, [(5, .int 30), (4, .int (-20)), (0, .ref 0), (1, .int x1), (2, .int x2), (3, .int x3)], [.int 1000000006], hh83) _
              refine xi_ireturn kc_95_83 mr_95 rfl ?_
              have zc1000000006 : (1000000006 : Int32).toInt = 1000000006 := by decide
              exact kk 1000000006 hh83 K84
      · refine xi_cmf (pc' := 51) kc_95_48 rfl (xc_ge_f (X := x3.toInt) (Y := (-20)) rfl (by decide) (by omega)) ?_
        refine xi_aload_n (pc' := 52) (x := 0) kc_95_51 rfl rfl ?_
        refine xi_bipush (pc' := 54) (v := (-4)) kc_95_52 rfl rfl ?_
        refine xp_0 K.1 (fun u85 u86 bu85 bu86 A87 => ?_)
        refine xi_virtual (mj := 96) (as := [.int (-4)]) (st1 := []) (lv0 := [(0, .ref 0), (1, .int (-4))]) kc_95_54 rfl rfl rfl rfl rfl A87 (Nat.le_of_ble_eq_true rfl) (hJ _ _ _ _ (by decide)) (xm_le ml_96 rfl) rfl ?_
        refine xi_ldc_w (pc' := 3) (v := 1000000000) kc_96_0 rfl rfl ?_
        refine xi_aload_n (pc' := 4) (x := 0) kc_96_3 rfl rfl ?_
        refine xi_iload_n (pc' := 5) (x := (-4)) kc_96_4 rfl rfl ?_
        refine xi_virtual (mj := 90) (as := [.int (-4)]) (st1 := [.int 1000000000]) (lv0 := [(0, .ref 0), (1, .int (-4))]) kc_96_5 rfl rfl rfl rfl rfl A87 (Nat.le_of_ble_eq_true rfl) (hJ _ _ _ _ (by decide)) (xm_le ml_90 rfl) rfl ?_
        refine xi_iload_n (pc' := 1) (x := (-4)) kc_90_0 rfl rfl ?_
        refine xi_ineg (pc' := 2) (v := 4) kc_90_1 rfl rfl ?_
        refine xi_istore_n (pc' := 3) (lv' := [(2, .int 4), (0, .ref 0), (1, .int (-4))]) kc_90_2 rfl rfl (xm_lt ml_90 rfl) ?_
        refine xi_iload_n (pc' := 4) (x := 4) kc_90_3 rfl rfl ?_
        refine xi_iff (pc' := 7) kc_90_4 rfl rfl ?_
        refine xi_iload_n (pc' := 8) (x := 4) kc_90_7 rfl rfl ?_
        refine xi_aload_n (pc' := 9) (x := 0) kc_90_8 rfl rfl ?_
        refine xi_getfield (pc' := 12) (v := .ref 94) kc_90_9 rfl rfl rfl A87 rfl ?_
        refine xcps4 (xk_arr K.1 xD_94) (fun y88 A88 hy88 ry88 => ?_)
        refine xi_arraylength (pc' := 13) (n := 7) (v := 7) kc_90_12 rfl (xl_lenI (by decide) (by decide) A88 hy88) rfl ?_
        refine xi_cmf (pc' := 16) kc_90_13 rfl rfl ?_
        refine xi_aload_n (pc' := 17) (x := 0) kc_90_16 rfl rfl ?_
        refine xi_getfield (pc' := 20) (v := .ref 94) kc_90_17 rfl rfl rfl A87 rfl ?_
        refine xi_iload_n (pc' := 21) (x := 4) kc_90_20 rfl rfl ?_
        refine xi_dup2 (pc' := 22) kc_90_21 rfl ⟨rfl, rfl⟩ ?_
        refine xcps4 (xj_get hy88 ry88 (i := 4) (by decide) (by decide)) (fun v89 ev89 bv89 dv89 => ?_)
        refine xi_iaload (pc' := 23) (v := v89) kc_90_22 rfl A88 (by decide) rfl (xi_in (by decide) (by rw [hy88]; decide)) ev89 ?_
        refine xi_iconst (pc' := 24) (v := 1) kc_90_23 rfl rfl ?_
        refine xcps2 (α := Int32) ((v89 : Int32) + 1) (fun v90 ev90 => ?_)
        have rv90 := xc_rng v90
        refine xi_iadd (pc' := 25) (v := v90) kc_90_24 rfl ev90 ?_
        refine xcps4 (xj_set (v := v90) hy88 ry88 4 (by first | omega | decide) (by first | omega | decide)) (fun y91 s91 hy91 ry91 => ?_)
        refine xi_iastore (pc' := 26) (x' := y91) kc_90_25 rfl A88 rfl (xi_in (by decide) (by rw [hy88]; decide)) s91 (fun hh91 eh91 => ?_)
        have K92 := xk_pa K (xk_wa rfl) xD_94 hy91 ry91 eh91
        refine xi_iload_n (pc' := 27) (x := (-4)) kc_90_26 rfl rfl ?_
        refine xi_ireturn kc_90_27 mr_90 rfl ?_
        show xw J ov (d + 1) 96 (8, [(0, .ref 0), (1, .int (-4))], [.int (-4), .int 1000000000], hh91) _
        refine xi_isub (pc' := 9) (v := 1000000004) kc_96_8 rfl rfl ?_
        refine xi_ireturn kc_96_9 mr_96 rfl ?_
        show xw J ov (d + 2) 95 (57, [(5, .int 30), (4, .int (-20)), (0, .ref 0), (1, .int x1), (2, .int x2), (3, .int x3)], [.int 1000000004], hh91) _
        refine xi_ireturn kc_95_57 mr_95 rfl ?_
        have zc1000000004 : (1000000004 : Int32).toInt = 1000000004 := by decide
        exact kk 1000000004 hh91 K92
  · refine xi_iff (pc' := 4) kc_95_1 rfl (xc_eq_f (X := x2.toInt) (Y := 0) rfl (by decide) (by omega)) ?_
    refine xi_iload_n (pc' := 5) (x := x2) kc_95_4 rfl rfl ?_
    refine xi_iconst (pc' := 6) (v := 1) kc_95_5 rfl rfl ?_
    by_cases c93 : x2.toInt = 1
    · refine xi_cmt (pc' := 16) kc_95_6 rfl (xc_eq_t (X := x2.toInt) (Y := 1) rfl (by decide) (by omega)) ?_
      refine xi_iload_n (pc' := 17) (x := x2) kc_95_16 rfl rfl ?_
      refine xi_ift (pc' := 25) kc_95_17 rfl (xc_ne_t (X := x2.toInt) (Y := 0) rfl (by decide) (by omega)) ?_
      refine xi_iconst (pc' := 26) (v := 0) kc_95_25 rfl rfl ?_
      refine xi_istore (pc' := 28) (lv' := [(4, .int 0), (0, .ref 0), (1, .int x1), (2, .int x2), (3, .int x3)]) kc_95_26 rfl rfl (xm_lt ml_95 rfl) ?_
      refine xi_iload_n (pc' := 29) (x := x2) kc_95_28 rfl rfl ?_
      refine xi_ift (pc' := 37) kc_95_29 rfl (xc_ne_t (X := x2.toInt) (Y := 0) rfl (by decide) (by omega)) ?_
      refine xi_bipush (pc' := 39) (v := 20) kc_95_37 rfl rfl ?_
      refine xi_istore (pc' := 41) (lv' := [(5, .int 20), (4, .int 0), (0, .ref 0), (1, .int x1), (2, .int x2), (3, .int x3)]) kc_95_39 rfl rfl (xm_lt ml_95 rfl) ?_
      refine xi_iload_n (pc' := 42) (x := x1) kc_95_41 rfl rfl ?_
      by_cases c94 : x1.toInt < 0
      · refine xi_ift (pc' := 51) kc_95_42 rfl (xc_lt_t (X := x1.toInt) (Y := 0) rfl (by decide) (by omega)) ?_
        refine xi_aload_n (pc' := 52) (x := 0) kc_95_51 rfl rfl ?_
        refine xi_bipush (pc' := 54) (v := (-4)) kc_95_52 rfl rfl ?_
        refine xp_0 K.1 (fun u95 u96 bu95 bu96 A97 => ?_)
        refine xi_virtual (mj := 96) (as := [.int (-4)]) (st1 := []) (lv0 := [(0, .ref 0), (1, .int (-4))]) kc_95_54 rfl rfl rfl rfl rfl A97 (Nat.le_of_ble_eq_true rfl) (hJ _ _ _ _ (by decide)) (xm_le ml_96 rfl) rfl ?_
        refine xi_ldc_w (pc' := 3) (v := 1000000000) kc_96_0 rfl rfl ?_
        refine xi_aload_n (pc' := 4) (x := 0) kc_96_3 rfl rfl ?_
        refine xi_iload_n (pc' := 5) (x := (-4)) kc_96_4 rfl rfl ?_
        refine xi_virtual (mj := 90) (as := [.int (-4)]) (st1 := [.int 1000000000]) (lv0 := [(0, .ref 0), (1, .int (-4))]) kc_96_5 rfl rfl rfl rfl rfl A97 (Nat.le_of_ble_eq_true rfl) (hJ _ _ _ _ (by decide)) (xm_le ml_90 rfl) rfl ?_
        refine xi_iload_n (pc' := 1) (x := (-4)) kc_90_0 rfl rfl ?_
        refine xi_ineg (pc' := 2) (v := 4) kc_90_1 rfl rfl ?_
        refine xi_istore_n (pc' := 3) (lv' := [(2, .int 4), (0, .ref 0), (1, .int (-4))]) kc_90_2 rfl rfl (xm_lt ml_90 rfl) ?_
        refine xi_iload_n (pc' := 4) (x := 4) kc_90_3 rfl rfl ?_
        refine xi_iff (pc' := 7) kc_90_4 rfl rfl ?_
        refine xi_iload_n (pc' := 8) (x := 4) kc_90_7 rfl rfl ?_
        refine xi_aload_n (pc' := 9) (x := 0) kc_90_8 rfl rfl ?_
        refine xi_getfield (pc' := 12) (v := .ref 94) kc_90_9 rfl rfl rfl A97 rfl ?_
        refine xcps4 (xk_arr K.1 xD_94) (fun y98 A98 hy98 ry98 => ?_)
        refine xi_arraylength (pc' := 13) (n := 7) (v := 7) kc_90_12 rfl (xl_lenI (by decide) (by decide) A98 hy98) rfl ?_
        refine xi_cmf (pc' := 16) kc_90_13 rfl rfl ?_
        refine xi_aload_n (pc' := 17) (x := 0) kc_90_16 rfl rfl ?_
        refine xi_getfield (pc' := 20) (v := .ref 94) kc_90_17 rfl rfl rfl A97 rfl ?_
        refine xi_iload_n (pc' := 21) (x := 4) kc_90_20 rfl rfl ?_
        refine xi_dup2 (pc' := 22) kc_90_21 rfl ⟨rfl, rfl⟩ ?_
        refine xcps4 (xj_get hy98 ry98 (i := 4) (by decide) (by decide)) (fun v99 ev99 bv99 dv99 => ?_)
        refine xi_iaload (pc' := 23) (v := v99) kc_90_22 rfl A98 (by decide) rfl (xi_in (by decide) (by rw [hy98]; decide)) ev99 ?_
        refine xi_iconst (pc' := 24) (v := 1) kc_90_23 rfl rfl ?_
        refine xcps2 (α := Int32) ((v99 : Int32) + 1) (fun v100 ev100 => ?_)
        have rv100 := xc_rng v100
        refine xi_iadd (pc' := 25) (v := v100) kc_90_24 rfl ev100 ?_
        refine xcps4 (xj_set (v := v100) hy98 ry98 4 (by first | omega | decide) (by first | omega | decide)) (fun y101 s101 hy101 ry101 => ?_)
        refine xi_iastore (pc' := 26) (x' := y101) kc_90_25 rfl A98 rfl (xi_in (by decide) (by rw [hy98]; decide)) s101 (fun hh101 eh101 => ?_)
        have K102 := xk_pa K (xk_wa rfl) xD_94 hy101 ry101 eh101
        refine xi_iload_n (pc' := 27) (x := (-4)) kc_90_26 rfl rfl ?_
        refine xi_ireturn kc_90_27 mr_90 rfl ?_
        show xw J ov (d + 1) 96 (8, [(0, .ref 0), (1, .int (-4))], [.int (-4), .int 1000000000], hh101) _
        refine xi_isub (pc' := 9) (v := 1000000004) kc_96_8 rfl rfl ?_
        refine xi_ireturn kc_96_9 mr_96 rfl ?_
        show xw J ov (d + 2) 95 (57, [(5, .int 20), (4, .int 0), (0, .ref 0), (1, .int x1), (2, .int x2), (3, .int x3)], [.int 1000000004], hh101) _
        refine xi_ireturn kc_95_57 mr_95 rfl ?_
        have zc1000000004 : (1000000004 : Int32).toInt = 1000000004 := by decide
        exact kk 1000000004 hh101 K102
      · refine xi_iff (pc' := 45) kc_95_42 rfl (xc_lt_f (X := x1.toInt) (Y := 0) rfl (by decide) (by omega)) ?_
        refine xi_iload_n (pc' := 46) (x := x3) kc_95_45 rfl rfl ?_
        refine xi_iload (pc' := 48) (x := 0) kc_95_46 rfl rfl ?_
        by_cases c103 : 0 ≤ x3.toInt
        · refine xi_cmt (pc' := 58) kc_95_48 rfl (xc_ge_t (X := x3.toInt) (Y := 0) rfl (by decide) (by omega)) ?_
          refine xi_iload_n (pc' := 59) (x := x1) kc_95_58 rfl rfl ?_
          refine xi_sipush (pc' := 62) (v := 600) kc_95_59 rfl rfl ?_
          by_cases c104 : 600 ≤ x1.toInt
          · refine xi_cmt (pc' := 77) kc_95_62 rfl (xc_ge_t (X := x1.toInt) (Y := 600) rfl (by decide) (by omega)) ?_
            refine xi_aload_n (pc' := 78) (x := 0) kc_95_77 rfl rfl ?_
            refine xi_bipush (pc' := 80) (v := (-6)) kc_95_78 rfl rfl ?_
            refine xp_0 K.1 (fun u105 u106 bu105 bu106 A107 => ?_)
            refine xi_virtual (mj := 96) (as := [.int (-6)]) (st1 := []) (lv0 := [(0, .ref 0), (1, .int (-6))]) kc_95_80 rfl rfl rfl rfl rfl A107 (Nat.le_of_ble_eq_true rfl) (hJ _ _ _ _ (by decide)) (xm_le ml_96 rfl) rfl ?_
            refine xi_ldc_w (pc' := 3) (v := 1000000000) kc_96_0 rfl rfl ?_
            refine xi_aload_n (pc' := 4) (x := 0) kc_96_3 rfl rfl ?_
            refine xi_iload_n (pc' := 5) (x := (-6)) kc_96_4 rfl rfl ?_
            refine xi_virtual (mj := 90) (as := [.int (-6)]) (st1 := [.int 1000000000]) (lv0 := [(0, .ref 0), (1, .int (-6))]) kc_96_5 rfl rfl rfl rfl rfl A107 (Nat.le_of_ble_eq_true rfl) (hJ _ _ _ _ (by decide)) (xm_le ml_90 rfl) rfl ?_
            refine xi_iload_n (pc' := 1) (x := (-6)) kc_90_0 rfl rfl ?_
            refine xi_ineg (pc' := 2) (v := 6) kc_90_1 rfl rfl ?_
            refine xi_istore_n (pc' := 3) (lv' := [(2, .int 6), (0, .ref 0), (1, .int (-6))]) kc_90_2 rfl rfl (xm_lt ml_90 rfl) ?_
            refine xi_iload_n (pc' := 4) (x := 6) kc_90_3 rfl rfl ?_
            refine xi_iff (pc' := 7) kc_90_4 rfl rfl ?_
            refine xi_iload_n (pc' := 8) (x := 6) kc_90_7 rfl rfl ?_
            refine xi_aload_n (pc' := 9) (x := 0) kc_90_8 rfl rfl ?_
            refine xi_getfield (pc' := 12) (v := .ref 94) kc_90_9 rfl rfl rfl A107 rfl ?_
            refine xcps4 (xk_arr K.1 xD_94) (fun y108 A108 hy108 ry108 => ?_)
            refine xi_arraylength (pc' := 13) (n := 7) (v := 7) kc_90_12 rfl (xl_lenI (by decide) (by decide) A108 hy108) rfl ?_
            refine xi_cmf (pc' := 16) kc_90_13 rfl rfl ?_
            refine xi_aload_n (pc' := 17) (x := 0) kc_90_16 rfl rfl ?_
            refine xi_getfield (pc' := 20) (v := .ref 94) kc_90_17 rfl rfl rfl A107 rfl ?_
            refine xi_iload_n (pc' := 21) (x := 6) kc_90_20 rfl rfl ?_
            refine xi_dup2 (pc' := 22) kc_90_21 rfl ⟨rfl, rfl⟩ ?_
            refine xcps4 (xj_get hy108 ry108 (i := 6) (by decide) (by decide)) (fun v109 ev109 bv109 dv109 => ?_)
            refine xi_iaload (pc' := 23) (v := v109) kc_90_22 rfl A108 (by decide) rfl (xi_in (by decide) (by rw [hy108]; decide)) ev109 ?_
            refine xi_iconst (pc' := 24) (v := 1) kc_90_23 rfl rfl ?_
            refine xcps2 (α := Int32) ((v109 : Int32) + 1) (fun v110 ev110 => ?_)
            have rv110 := xc_rng v110
            refine xi_iadd (pc' := 25) (v := v110) kc_90_24 rfl ev110 ?_
            refine xcps4 (xj_set (v := v110) hy108 ry108 6 (by first | omega | decide) (by first | omega | decide)) (fun y111 s111 hy111 ry111 => ?_)
            refine xi_iastore (pc' := 26) (x' := y111) kc_90_25 rfl A108 rfl (xi_in (by decide) (by rw [hy108]; decide)) s111 (fun hh111 eh111 => ?_)
            have K112 := xk_pa K (xk_wa rfl) xD_94 hy111 ry111 eh111
            refine xi_iload_n (pc' := 27) (x := (-6)) kc_90_26 rfl rfl ?_
            refine xi_ireturn kc_90_27 mr_90 rfl ?_
            show xw J ov (d + 1) 96 (8, [(0, .ref 0), (1, .int (-6))], [.int (-6), .int 1000000000], hh111) _
            refine xi_isub (pc' := 9) (v := 1000000006) kc_96_8 rfl rfl ?_
            refine xi_ireturn kc_96_9 mr_96 rfl ?_
            show xw J ov (d + 2) 95 (83, [(5, .int 20), (4, .int 0), (0, .ref 0), (1, .int x1), (2, .int x2), (3, .int x3)], [.int 1000000006], hh111) _
            refine xi_ireturn kc_95_83 mr_95 rfl ?_
            have zc1000000006 : (1000000006 : Int32).toInt = 1000000006 := by decide
            exact kk 1000000006 hh111 K112
          · refine xi_cmf (pc' := 65) kc_95_62 rfl (xc_ge_f (X := x1.toInt) (Y := 600) rfl (by decide) (by omega)) ?_
            refine xi_iload_n (pc' := 66) (x := x3) kc_95_65 rfl rfl ?_
            refine xi_iload (pc' := 68) (x := 20) kc_95_66 rfl rfl ?_
            by_cases c113 : x3.toInt ≤ 20
            · refine xi_cmt (pc' := 84) kc_95_68 rfl (xc_le_t (X := x3.toInt) (Y := 20) rfl (by decide) (by omega)) ?_
              refine xi_aload_n (pc' := 85) (x := 0) kc_95_84 rfl rfl ?_
              refine xp_0 K.1 (fun u114 u115 bu114 bu115 A116 => ?_)
              refine xi_getfield (pc' := 88) (v := .ref 66) kc_95_85 rfl rfl rfl A116 rfl ?_
              refine xp_66 K.1 (fun u118 wl117 bu118 A119 => ?_)
              refine xi_virtual (mj := 91) (as := []) (st1 := []) (lv0 := [(0, .ref 66)]) kc_95_88 rfl rfl rfl rfl rfl A119 (Nat.le_of_ble_eq_true rfl) (hJ _ _ _ _ (by decide)) (xm_le ml_91 rfl) rfl ?_
              refine xi_aload_n (pc' := 1) (x := 66) kc_91_0 rfl rfl ?_
              refine xi_lconst (pc' := 2) (v := 0) kc_91_1 rfl rfl ?_
              refine xi_putfield (pc' := 5) (fs' := [.ref 1, .ref 67, .ref 70, .ref 71, .ref 72, .ref 73, .ref 74, .long 0, .int u118]) kc_91_2 rfl rfl rfl A119 rfl rfl rfl (Nat.le_of_ble_eq_true rfl) rfl (fun hh121 eh120 => ?_)
              have K122 := xk_pl (k := 7) (v := 0) K (xk_wf rfl) xD_66 A119 rfl eh120 rfl
              refine xi_return kc_91_5 mr_91 ?_
              show xw J ov (d + 2) 95 (91, [(5, .int 20), (4, .int 0), (0, .ref 0), (1, .int x1), (2, .int x2), (3, .int x3)], [], hh121) _
              refine xi_aload_n (pc' := 92) (x := 0) kc_95_91 rfl rfl ?_
              have A123 := ((eh120.2.1 0 (by decide)).trans A116)
              refine xi_getfield (pc' := 95) (v := .ref 1) kc_95_92 rfl rfl rfl A123 rfl ?_
              refine xi_iload_n (pc' := 96) (x := x2) kc_95_95 rfl rfl ?_
              refine xp_1 K122.1 (fun u124 u125 bu124 bu125 A126 => ?_)
              refine xi_virtual (mj := 97) (as := [.int x2]) (st1 := []) (lv0 := [(0, .ref 1), (1, .int x2)]) kc_95_96 rfl rfl rfl rfl rfl A126 (Nat.le_of_ble_eq_true rfl) (hJ _ _ _ _ (by decide)) (xm_le ml_97 rfl) rfl ?_
              refine xi_iload_n (pc' := 1) (x := x2) kc_97_0 rfl rfl ?_
              refine xi_ift (pc' := 11) kc_97_1 rfl (xc_ne_t (X := x2.toInt) (Y := 0) rfl (by decide) (by omega)) ?_
              refine xi_aload_n (pc' := 12) (x := 1) kc_97_11 rfl rfl ?_
              refine xi_getfield (pc' := 15) (v := .ref 8) kc_97_12 rfl rfl rfl A126 rfl ?_
              refine xi_areturn kc_97_15 (by rw [mr_97]; rfl) ?_
              show xw J ov (d + 2) 95 (99, [(5, .int 20), (4, .int 0), (0, .ref 0), (1, .int x1), (2, .int x2), (3, .int x3)], [.ref 8], hh121) _
              refine xi_iload_n (pc' := 100) (x := x1) kc_95_99 rfl rfl ?_
              refine xi_iload_n (pc' := 101) (x := x3) kc_95_100 rfl rfl ?_
              refine xp_8 K122.1 (fun u127 bu127 A128 => ?_)
              refine xi_virtual (mj := 98) (as := [.int x1, .int x3]) (st1 := []) (lv0 := [(0, .ref 8), (1, .int x1), (2, .int x3)]) kc_95_101 rfl rfl rfl rfl rfl A128 (Nat.le_of_ble_eq_true rfl) (hJ _ _ _ _ (by decide)) (xm_le ml_98 rfl) rfl ?_
              refine mt_98_1 hJ hov1 hov2 (d := d) (x1 := x1) (x2 := x3) K122.1 (by first | omega | decide) (by first | omega | decide) (fun r129 hh130 K131 => ?_)
              have br129 := xc_rng r129
              have K132 := xk_tr K122 K131 rfl
              refine xp_0 K132.1 (fun u133 u134 bu133 bu134 A135 => ?_)
              have e136 : u115 = u134 := xk_eqi (q := 9) K131 rfl A123 A135 rfl rfl
              subst e136
              refine xp_66 K132.1 (fun u138 wl137 bu138 A139 => ?_)
              have e140 : u118 = u138 := xk_eqi (q := 8) K131 rfl eh120.1 A139 rfl rfl
              subst e140
              show xw J ov (d + 2) 95 (104, [(5, .int 20), (4, .int 0), (0, .ref 0), (1, .int x1), (2, .int x2), (3, .int x3)], [.int r129], hh130) _
              refine xi_ireturn kc_95_104 mr_95 rfl ?_
              exact kk r129 hh130 K132
            · refine xi_cmf (pc' := 71) kc_95_68 rfl (xc_le_f (X := x3.toInt) (Y := 20) rfl (by decide) (by omega)) ?_
              refine xi_iload_n (pc' := 72) (x := x3) kc_95_71 rfl rfl ?_
              refine xi_bipush (pc' := 74) (v := 99) kc_95_72 rfl rfl ?_
              by_cases c141 : x3.toInt = 99
              · refine xi_cmt (pc' := 84) kc_95_74 rfl (xc_eq_t (X := x3.toInt) (Y := 99) rfl (by decide) (by omega)) ?_
                refine xi_aload_n (pc' := 85) (x := 0) kc_95_84 rfl rfl ?_
                refine xp_0 K.1 (fun u142 u143 bu142 bu143 A144 => ?_)
                refine xi_getfield (pc' := 88) (v := .ref 66) kc_95_85 rfl rfl rfl A144 rfl ?_
                refine xp_66 K.1 (fun u146 wl145 bu146 A147 => ?_)
                refine xi_virtual (mj := 91) (as := []) (st1 := []) (lv0 := [(0, .ref 66)]) kc_95_88 rfl rfl rfl rfl rfl A147 (Nat.le_of_ble_eq_true rfl) (hJ _ _ _ _ (by decide)) (xm_le ml_91 rfl) rfl ?_
                refine xi_aload_n (pc' := 1) (x := 66) kc_91_0 rfl rfl ?_
                refine xi_lconst (pc' := 2) (v := 0) kc_91_1 rfl rfl ?_
                refine xi_putfield (pc' := 5) (fs' := [.ref 1, .ref 67, .ref 70, .ref 71, .ref 72, .ref 73, .ref 74, .long 0, .int u146]) kc_91_2 rfl rfl rfl A147 rfl rfl rfl (Nat.le_of_ble_eq_true rfl) rfl (fun hh149 eh148 => ?_)
                have K150 := xk_pl (k := 7) (v := 0) K (xk_wf rfl) xD_66 A147 rfl eh148 rfl
                refine xi_return kc_91_5 mr_91 ?_
                show xw J ov (d + 2) 95 (91, [(5, .int 20), (4, .int 0), (0, .ref 0), (1, .int x1), (2, .int x2), (3, .int x3)], [], hh149) _
                refine xi_aload_n (pc' := 92) (x := 0) kc_95_91 rfl rfl ?_
                have A151 := ((eh148.2.1 0 (by decide)).trans A144)
                refine xi_getfield (pc' := 95) (v := .ref 1) kc_95_92 rfl rfl rfl A151 rfl ?_
                refine xi_iload_n (pc' := 96) (x := x2) kc_95_95 rfl rfl ?_
                refine xp_1 K150.1 (fun u152 u153 bu152 bu153 A154 => ?_)
                refine xi_virtual (mj := 97) (as := [.int x2]) (st1 := []) (lv0 := [(0, .ref 1), (1, .int x2)]) kc_95_96 rfl rfl rfl rfl rfl A154 (Nat.le_of_ble_eq_true rfl) (hJ _ _ _ _ (by decide)) (xm_le ml_97 rfl) rfl ?_
                refine xi_iload_n (pc' := 1) (x := x2) kc_97_0 rfl rfl ?_
                refine xi_ift (pc' := 11) kc_97_1 rfl (xc_ne_t (X := x2.toInt) (Y := 0) rfl (by decide) (by omega)) ?_
                refine xi_aload_n (pc' := 12) (x := 1) kc_97_11 rfl rfl ?_
                refine xi_getfield (pc' := 15) (v := .ref 8) kc_97_12 rfl rfl rfl A154 rfl ?_
                refine xi_areturn kc_97_15 (by rw [mr_97]; rfl) ?_
                show xw J ov (d + 2) 95 (99, [(5, .int 20), (4, .int 0), (0, .ref 0), (1, .int x1), (2, .int x2), (3, .int x3)], [.ref 8], hh149) _
                refine xi_iload_n (pc' := 100) (x := x1) kc_95_99 rfl rfl ?_
                refine xi_iload_n (pc' := 101) (x := x3) kc_95_100 rfl rfl ?_
                refine xp_8 K150.1 (fun u155 bu155 A156 => ?_)
                refine xi_virtual (mj := 98) (as := [.int x1, .int x3]) (st1 := []) (lv0 := [(0, .ref 8), (1, .int x1), (2, .int x3)]) kc_95_101 rfl rfl rfl rfl rfl A156 (Nat.le_of_ble_eq_true rfl) (hJ _ _ _ _ (by decide)) (xm_le ml_98 rfl) rfl ?_
                refine mt_98_1 hJ hov1 hov2 (d := d) (x1 := x1) (x2 := x3) K150.1 (by first | omega | decide) (by first | omega | decide) (fun r157 hh158 K159 => ?_)
                have br157 := xc_rng r157
                have K160 := xk_tr K150 K159 rfl
                refine xp_0 K160.1 (fun u161 u162 bu161 bu162 A163 => ?_)
                have e164 : u143 = u162 := xk_eqi (q := 9) K159 rfl A151 A163 rfl rfl
                subst e164
                refine xp_66 K160.1 (fun u166 wl165 bu166 A167 => ?_)
                have e168 : u146 = u166 := xk_eqi (q := 8) K159 rfl eh148.1 A167 rfl rfl
                subst e168
                show xw J ov (d + 2) 95 (104, [(5, .int 20), (4, .int 0), (0, .ref 0), (1, .int x1), (2, .int x2), (3, .int x3)], [.int r157], hh158) _
                refine xi_ireturn kc_95_104 mr_95 rfl ?_
                exact kk r157 hh158 K160
              · refine xi_cmf (pc' := 77) kc_95_74 rfl (xc_eq_f (X := x3.toInt) (Y := 99) rfl (by decide) (by omega)) ?_
                refine xi_aload_n (pc' := 78) (x := 0) kc_95_77 rfl rfl ?_
                refine xi_bipush (pc' := 80) (v := (-6)) kc_95_78 rfl rfl ?_
                refine xp_0 K.1 (fun u169 u170 bu169 bu170 A171 => ?_)
                refine xi_virtual (mj := 96) (as := [.int (-6)]) (st1 := []) (lv0 := [(0, .ref 0), (1, .int (-6))]) kc_95_80 rfl rfl rfl rfl rfl A171 (Nat.le_of_ble_eq_true rfl) (hJ _ _ _ _ (by decide)) (xm_le ml_96 rfl) rfl ?_
                refine xi_ldc_w (pc' := 3) (v := 1000000000) kc_96_0 rfl rfl ?_
                refine xi_aload_n (pc' := 4) (x := 0) kc_96_3 rfl rfl ?_
                refine xi_iload_n (pc' := 5) (x := (-6)) kc_96_4 rfl rfl ?_
                refine xi_virtual (mj := 90) (as := [.int (-6)]) (st1 := [.int 1000000000]) (lv0 := [(0, .ref 0), (1, .int (-6))]) kc_96_5 rfl rfl rfl rfl rfl A171 (Nat.le_of_ble_eq_true rfl) (hJ _ _ _ _ (by decide)) (xm_le ml_90 rfl) rfl ?_
                refine xi_iload_n (pc' := 1) (x := (-6)) kc_90_0 rfl rfl ?_
                refine xi_ineg (pc' := 2) (v := 6) kc_90_1 rfl rfl ?_
                refine xi_istore_n (pc' := 3) (lv' := [(2, .int 6), (0, .ref 0), (1, .int (-6))]) kc_90_2 rfl rfl (xm_lt ml_90 rfl) ?_
                refine xi_iload_n (pc' := 4) (x := 6) kc_90_3 rfl rfl ?_
                refine xi_iff (pc' := 7) kc_90_4 rfl rfl ?_
                refine xi_iload_n (pc' := 8) (x := 6) kc_90_7 rfl rfl ?_
                refine xi_aload_n (pc' := 9) (x := 0) kc_90_8 rfl rfl ?_
                refine xi_getfield (pc' := 12) (v := .ref 94) kc_90_9 rfl rfl rfl A171 rfl ?_
                refine xcps4 (xk_arr K.1 xD_94) (fun y172 A172 hy172 ry172 => ?_)
                refine xi_arraylength (pc' := 13) (n := 7) (v := 7) kc_90_12 rfl (xl_lenI (by decide) (by decide) A172 hy172) rfl ?_
                refine xi_cmf (pc' := 16) kc_90_13 rfl rfl ?_
                refine xi_aload_n (pc' := 17) (x := 0) kc_90_16 rfl rfl ?_
                refine xi_getfield (pc' := 20) (v := .ref 94) kc_90_17 rfl rfl rfl A171 rfl ?_
                refine xi_iload_n (pc' := 21) (x := 6) kc_90_20 rfl rfl ?_
                refine xi_dup2 (pc' := 22) kc_90_21 rfl ⟨rfl, rfl⟩ ?_
                refine xcps4 (xj_get hy172 ry172 (i := 6) (by decide) (by decide)) (fun v173 ev173 bv173 dv173 => ?_)
                refine xi_iaload (pc' := 23) (v := v173) kc_90_22 rfl A172 (by decide) rfl (xi_in (by decide) (by rw [hy172]; decide)) ev173 ?_
                refine xi_iconst (pc' := 24) (v := 1) kc_90_23 rfl rfl ?_
                refine xcps2 (α := Int32) ((v173 : Int32) + 1) (fun v174 ev174 => ?_)
                have rv174 := xc_rng v174
                refine xi_iadd (pc' := 25) (v := v174) kc_90_24 rfl ev174 ?_
                refine xcps4 (xj_set (v := v174) hy172 ry172 6 (by first | omega | decide) (by first | omega | decide)) (fun y175 s175 hy175 ry175 => ?_)
                refine xi_iastore (pc' := 26) (x' := y175) kc_90_25 rfl A172 rfl (xi_in (by decide) (by rw [hy172]; decide)) s175 (fun hh175 eh175 => ?_)
                have K176 := xk_pa K (xk_wa rfl) xD_94 hy175 ry175 eh175
                refine xi_iload_n (pc' := 27) (x := (-6)) kc_90_26 rfl rfl ?_
                refine xi_ireturn kc_90_27 mr_90 rfl ?_
                show xw J ov (d + 1) 96 (8, [(0, .ref 0), (1, .int (-6))], [.int (-6), .int 1000000000], hh175) _
                refine xi_isub (pc' := 9) (v := 1000000006) kc_96_8 rfl rfl ?_
                refine xi_ireturn kc_96_9 mr_96 rfl ?_
                show xw J ov (d + 2) 95 (83, [(5, .int 20), (4, .int 0), (0, .ref 0), (1, .int x1), (2, .int x2), (3, .int x3)], [.int 1000000006], hh175) _
                refine xi_ireturn kc_95_83 mr_95 rfl ?_
                have zc1000000006 : (1000000006 : Int32).toInt = 1000000006 := by decide
                exact kk 1000000006 hh175 K176
        · refine xi_cmf (pc' := 51) kc_95_48 rfl (xc_ge_f (X := x3.toInt) (Y := 0) rfl (by decide) (by omega)) ?_
          refine xi_aload_n (pc' := 52) (x := 0) kc_95_51 rfl rfl ?_
          refine xi_bipush (pc' := 54) (v := (-4)) kc_95_52 rfl rfl ?_
          refine xp_0 K.1 (fun u177 u178 bu177 bu178 A179 => ?_)
          refine xi_virtual (mj := 96) (as := [.int (-4)]) (st1 := []) (lv0 := [(0, .ref 0), (1, .int (-4))]) kc_95_54 rfl rfl rfl rfl rfl A179 (Nat.le_of_ble_eq_true rfl) (hJ _ _ _ _ (by decide)) (xm_le ml_96 rfl) rfl ?_
          refine xi_ldc_w (pc' := 3) (v := 1000000000) kc_96_0 rfl rfl ?_
          refine xi_aload_n (pc' := 4) (x := 0) kc_96_3 rfl rfl ?_
          refine xi_iload_n (pc' := 5) (x := (-4)) kc_96_4 rfl rfl ?_
          refine xi_virtual (mj := 90) (as := [.int (-4)]) (st1 := [.int 1000000000]) (lv0 := [(0, .ref 0), (1, .int (-4))]) kc_96_5 rfl rfl rfl rfl rfl A179 (Nat.le_of_ble_eq_true rfl) (hJ _ _ _ _ (by decide)) (xm_le ml_90 rfl) rfl ?_
          refine xi_iload_n (pc' := 1) (x := (-4)) kc_90_0 rfl rfl ?_
          refine xi_ineg (pc' := 2) (v := 4) kc_90_1 rfl rfl ?_
          refine xi_istore_n (pc' := 3) (lv' := [(2, .int 4), (0, .ref 0), (1, .int (-4))]) kc_90_2 rfl rfl (xm_lt ml_90 rfl) ?_
          refine xi_iload_n (pc' := 4) (x := 4) kc_90_3 rfl rfl ?_
          refine xi_iff (pc' := 7) kc_90_4 rfl rfl ?_
          refine xi_iload_n (pc' := 8) (x := 4) kc_90_7 rfl rfl ?_
          refine xi_aload_n (pc' := 9) (x := 0) kc_90_8 rfl rfl ?_
          refine xi_getfield (pc' := 12) (v := .ref 94) kc_90_9 rfl rfl rfl A179 rfl ?_
          refine xcps4 (xk_arr K.1 xD_94) (fun y180 A180 hy180 ry180 => ?_)
          refine xi_arraylength (pc' := 13) (n := 7) (v := 7) kc_90_12 rfl (xl_lenI (by decide) (by decide) A180 hy180) rfl ?_
          refine xi_cmf (pc' := 16) kc_90_13 rfl rfl ?_
          refine xi_aload_n (pc' := 17) (x := 0) kc_90_16 rfl rfl ?_
          refine xi_getfield (pc' := 20) (v := .ref 94) kc_90_17 rfl rfl rfl A179 rfl ?_
          refine xi_iload_n (pc' := 21) (x := 4) kc_90_20 rfl rfl ?_
          refine xi_dup2 (pc' := 22) kc_90_21 rfl ⟨rfl, rfl⟩ ?_
          refine xcps4 (xj_get hy180 ry180 (i := 4) (by decide) (by decide)) (fun v181 ev181 bv181 dv181 => ?_)
          refine xi_iaload (pc' := 23) (v := v181) kc_90_22 rfl A180 (by decide) rfl (xi_in (by decide) (by rw [hy180]; decide)) ev181 ?_
          refine xi_iconst (pc' := 24) (v := 1) kc_90_23 rfl rfl ?_
          refine xcps2 (α := Int32) ((v181 : Int32) + 1) (fun v182 ev182 => ?_)
          have rv182 := xc_rng v182
          refine xi_iadd (pc' := 25) (v := v182) kc_90_24 rfl ev182 ?_
          refine xcps4 (xj_set (v := v182) hy180 ry180 4 (by first | omega | decide) (by first | omega | decide)) (fun y183 s183 hy183 ry183 => ?_)
          refine xi_iastore (pc' := 26) (x' := y183) kc_90_25 rfl A180 rfl (xi_in (by decide) (by rw [hy180]; decide)) s183 (fun hh183 eh183 => ?_)
          have K184 := xk_pa K (xk_wa rfl) xD_94 hy183 ry183 eh183
          refine xi_iload_n (pc' := 27) (x := (-4)) kc_90_26 rfl rfl ?_
          refine xi_ireturn kc_90_27 mr_90 rfl ?_
          show xw J ov (d + 1) 96 (8, [(0, .ref 0), (1, .int (-4))], [.int (-4), .int 1000000000], hh183) _
          refine xi_isub (pc' := 9) (v := 1000000004) kc_96_8 rfl rfl ?_
          refine xi_ireturn kc_96_9 mr_96 rfl ?_
          show xw J ov (d + 2) 95 (57, [(5, .int 20), (4, .int 0), (0, .ref 0), (1, .int x1), (2, .int x2), (3, .int x3)], [.int 1000000004], hh183) _
          refine xi_ireturn kc_95_57 mr_95 rfl ?_
          have zc1000000004 : (1000000004 : Int32).toInt = 1000000004 := by decide
          exact kk 1000000004 hh183 K184
    · refine xi_cmf (pc' := 9) kc_95_6 rfl (xc_eq_f (X := x2.toInt) (Y := 1) rfl (by decide) (by omega)) ?_
      refine xi_aload_n (pc' := 10) (x := 0) kc_95_9 rfl rfl ?_
      refine xi_bipush (pc' := 12) (v := (-2)) kc_95_10 rfl rfl ?_
      refine xp_0 K.1 (fun u185 u186 bu185 bu186 A187 => ?_)
      refine xi_virtual (mj := 96) (as := [.int (-2)]) (st1 := []) (lv0 := [(0, .ref 0), (1, .int (-2))]) kc_95_12 rfl rfl rfl rfl rfl A187 (Nat.le_of_ble_eq_true rfl) (hJ _ _ _ _ (by decide)) (xm_le ml_96 rfl) rfl ?_
      refine xi_ldc_w (pc' := 3) (v := 1000000000) kc_96_0 rfl rfl ?_
      refine xi_aload_n (pc' := 4) (x := 0) kc_96_3 rfl rfl ?_
      refine xi_iload_n (pc' := 5) (x := (-2)) kc_96_4 rfl rfl ?_
      refine xi_virtual (mj := 90) (as := [.int (-2)]) (st1 := [.int 1000000000]) (lv0 := [(0, .ref 0), (1, .int (-2))]) kc_96_5 rfl rfl rfl rfl rfl A187 (Nat.le_of_ble_eq_true rfl) (hJ _ _ _ _ (by decide)) (xm_le ml_90 rfl) rfl ?_
      refine xi_iload_n (pc' := 1) (x := (-2)) kc_90_0 rfl rfl ?_
      refine xi_ineg (pc' := 2) (v := 2) kc_90_1 rfl rfl ?_
      refine xi_istore_n (pc' := 3) (lv' := [(2, .int 2), (0, .ref 0), (1, .int (-2))]) kc_90_2 rfl rfl (xm_lt ml_90 rfl) ?_
      refine xi_iload_n (pc' := 4) (x := 2) kc_90_3 rfl rfl ?_
      refine xi_iff (pc' := 7) kc_90_4 rfl rfl ?_
      refine xi_iload_n (pc' := 8) (x := 2) kc_90_7 rfl rfl ?_
      refine xi_aload_n (pc' := 9) (x := 0) kc_90_8 rfl rfl ?_
      refine xi_getfield (pc' := 12) (v := .ref 94) kc_90_9 rfl rfl rfl A187 rfl ?_
      refine xcps4 (xk_arr K.1 xD_94) (fun y188 A188 hy188 ry188 => ?_)
      refine xi_arraylength (pc' := 13) (n := 7) (v := 7) kc_90_12 rfl (xl_lenI (by decide) (by decide) A188 hy188) rfl ?_
      refine xi_cmf (pc' := 16) kc_90_13 rfl rfl ?_
      refine xi_aload_n (pc' := 17) (x := 0) kc_90_16 rfl rfl ?_
      refine xi_getfield (pc' := 20) (v := .ref 94) kc_90_17 rfl rfl rfl A187 rfl ?_
      refine xi_iload_n (pc' := 21) (x := 2) kc_90_20 rfl rfl ?_
      refine xi_dup2 (pc' := 22) kc_90_21 rfl ⟨rfl, rfl⟩ ?_
      refine xcps4 (xj_get hy188 ry188 (i := 2) (by decide) (by decide)) (fun v189 ev189 bv189 dv189 => ?_)
      refine xi_iaload (pc' := 23) (v := v189) kc_90_22 rfl A188 (by decide) rfl (xi_in (by decide) (by rw [hy188]; decide)) ev189 ?_
      refine xi_iconst (pc' := 24) (v := 1) kc_90_23 rfl rfl ?_
      refine xcps2 (α := Int32) ((v189 : Int32) + 1) (fun v190 ev190 => ?_)
      have rv190 := xc_rng v190
      refine xi_iadd (pc' := 25) (v := v190) kc_90_24 rfl ev190 ?_
      refine xcps4 (xj_set (v := v190) hy188 ry188 2 (by first | omega | decide) (by first | omega | decide)) (fun y191 s191 hy191 ry191 => ?_)
      refine xi_iastore (pc' := 26) (x' := y191) kc_90_25 rfl A188 rfl (xi_in (by decide) (by rw [hy188]; decide)) s191 (fun hh191 eh191 => ?_)
      have K192 := xk_pa K (xk_wa rfl) xD_94 hy191 ry191 eh191
      refine xi_iload_n (pc' := 27) (x := (-2)) kc_90_26 rfl rfl ?_
      refine xi_ireturn kc_90_27 mr_90 rfl ?_
      show xw J ov (d + 1) 96 (8, [(0, .ref 0), (1, .int (-2))], [.int (-2), .int 1000000000], hh191) _
      refine xi_isub (pc' := 9) (v := 1000000002) kc_96_8 rfl rfl ?_
      refine xi_ireturn kc_96_9 mr_96 rfl ?_
      show xw J ov (d + 2) 95 (15, [(0, .ref 0), (1, .int x1), (2, .int x2), (3, .int x3)], [.int 1000000002], hh191) _
      refine xi_ireturn kc_95_15 mr_95 rfl ?_
      have zc1000000002 : (1000000002 : Int32).toInt = 1000000002 := by decide
      exact kk 1000000002 hh191 K192
