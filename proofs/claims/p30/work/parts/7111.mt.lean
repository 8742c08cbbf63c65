set_option maxHeartbeats 4000000 in
theorem mt_94_0 {J : xe_J} {ov : List (List Int32)} (hJ : ∀ d mj as h, mj ≠ xe_loff → J d mj as h = none) (hov1 : ov[1]? = some [10, 0, 0, 0, 0, 0]) (hov2 : ov[2]? = some [99, 30, 50, 50, 1, 99999]) {d : Nat} {Q : Option Value → xe_H → Prop} {h : xe_H} {x1 : Int32} {x2 : Int32} {x3 : Int32} (T : xt h) (kk : (∀ (r : Int32) (h' : xe_H), xk [(0, 9), (115, 1), (83, 0), (85, 8), (115, 56)] h h' → Q (some (.int r)) h')) : xw J ov (d + 1) 94 (0, [(0, .ref 0), (1, .int x1), (2, .int x2), (3, .int x3)], [], h) Q := by
  have K : xk [(0, 9), (115, 1), (83, 0), (85, 8), (115, 56)] h h := xk_re T
  have rx1 := xc_rng x1
  have rx2 := xc_rng x2
  have rx3 := xc_rng x3
  refine xi_iload_n (pc' := 1) (x := x1) kc_94_0 rfl rfl ?_
  refine xi_static (mj := 89) (as := [.int x1]) (st1 := []) (lv0 := [(0, .int x1)]) kc_94_1 rfl rfl (Nat.le_of_ble_eq_true rfl) rfl rfl (Nat.le_of_ble_eq_true rfl) (hJ _ _ _ _ (by decide)) (xm_le ml_89 rfl) rfl ?_
  refine xi_iload_n (pc' := 1) (x := x1) kc_89_0 rfl rfl ?_
  by_cases c1 : x1.toInt < 0
  · refine xi_ift (pc' := 14) kc_89_1 rfl (xc_lt_t (X := x1.toInt) (Y := 0) rfl (by decide) (by omega)) ?_
    refine xi_iconst (pc' := 15) (v := 0) kc_89_14 rfl rfl ?_
    refine xi_ireturn kc_89_15 mr_89 rfl ?_
    show xw J ov (d + 1) 94 (4, [(0, .ref 0), (1, .int x1), (2, .int x2), (3, .int x3)], [.int 0], h) _
    refine xi_ift (pc' := 17) kc_94_4 rfl rfl ?_
    refine xi_aload_n (pc' := 18) (x := 0) kc_94_17 rfl rfl ?_
    refine xi_iconst (pc' := 19) (v := (-1)) kc_94_18 rfl rfl ?_
    refine xp_0 K.1 (fun u2 u3 bu2 bu3 A4 => ?_)
    refine xi_virtual (mj := 90) (as := [.int (-1)]) (st1 := []) (lv0 := [(0, .ref 0), (1, .int (-1))]) kc_94_19 rfl rfl rfl rfl rfl A4 (Nat.le_of_ble_eq_true rfl) (hJ _ _ _ _ (by decide)) (xm_le ml_90 rfl) rfl ?_
    refine xi_iload_n (pc' := 1) (x := (-1)) kc_90_0 rfl rfl ?_
    refine xi_ineg (pc' := 2) (v := 1) kc_90_1 rfl rfl ?_
    refine xi_istore_n (pc' := 3) (lv' := [(2, .int 1), (0, .ref 0), (1, .int (-1))]) kc_90_2 rfl rfl (xm_lt ml_90 rfl) ?_
    refine xi_iload_n (pc' := 4) (x := 1) kc_90_3 rfl rfl ?_
    refine xi_iff (pc' := 7) kc_90_4 rfl rfl ?_
    refine xi_iload_n (pc' := 8) (x := 1) kc_90_7 rfl rfl ?_
    refine xi_aload_n (pc' := 9) (x := 0) kc_90_8 rfl rfl ?_
    refine xi_getfield (pc' := 12) (v := .ref 94) kc_90_9 rfl rfl rfl A4 rfl ?_
    refine xcps4 (xk_arr K.1 xD_94) (fun y5 A5 hy5 ry5 => ?_)
    refine xi_arraylength (pc' := 13) (n := 7) (v := 7) kc_90_12 rfl (xl_lenI (by decide) (by decide) A5 hy5) rfl ?_
    refine xi_cmf (pc' := 16) kc_90_13 rfl rfl ?_
    refine xi_aload_n (pc' := 17) (x := 0) kc_90_16 rfl rfl ?_
    refine xi_getfield (pc' := 20) (v := .ref 94) kc_90_17 rfl rfl rfl A4 rfl ?_
    refine xi_iload_n (pc' := 21) (x := 1) kc_90_20 rfl rfl ?_
    refine xi_dup2 (pc' := 22) kc_90_21 rfl ⟨rfl, rfl⟩ ?_
    refine xcps4 (xj_get hy5 ry5 (i := 1) (by decide) (by decide)) (fun v6 ev6 bv6 dv6 => ?_)
    refine xi_iaload (pc' := 23) (v := v6) kc_90_22 rfl A5 (by decide) rfl (xi_in (by decide) (by rw [hy5]; decide)) ev6 ?_
    refine xi_iconst (pc' := 24) (v := 1) kc_90_23 rfl rfl ?_
    refine xcps2 (α := Int32) ((v6 : Int32) + 1) (fun v7 ev7 => ?_)
    have rv7 := xc_rng v7
    refine xi_iadd (pc' := 25) (v := v7) kc_90_24 rfl ev7 ?_
    refine xcps4 (xj_set (v := v7) hy5 ry5 1 (by first | omega | decide) (by first | omega | decide)) (fun y8 s8 hy8 ry8 => ?_)
    refine xi_iastore (pc' := 26) (x' := y8) kc_90_25 rfl A5 rfl (xi_in (by decide) (by rw [hy5]; decide)) s8 (fun hh8 eh8 => ?_)
    have K9 := xk_pa K (xk_wa rfl) xD_94 hy8 ry8 eh8
    refine xi_iload_n (pc' := 27) (x := (-1)) kc_90_26 rfl rfl ?_
    refine xi_ireturn kc_90_27 mr_90 rfl ?_
    show xw J ov (d + 1) 94 (22, [(0, .ref 0), (1, .int x1), (2, .int x2), (3, .int x3)], [.int (-1)], hh8) _
    refine xi_ireturn kc_94_22 mr_94 rfl ?_
    have zcm1 : ((-1) : Int32).toInt = (-1) := by decide
    exact kk (-1) hh8 K9
  · refine xi_iff (pc' := 4) kc_89_1 rfl (xc_lt_f (X := x1.toInt) (Y := 0) rfl (by decide) (by omega)) ?_
    refine xi_iload_n (pc' := 5) (x := x1) kc_89_4 rfl rfl ?_
    refine xi_bipush (pc' := 7) (v := 6) kc_89_5 rfl rfl ?_
    by_cases c10 : 6 ≤ x1.toInt
    · refine xi_cmt (pc' := 14) kc_89_7 rfl (xc_ge_t (X := x1.toInt) (Y := 6) rfl (by decide) (by omega)) ?_
      refine xi_iconst (pc' := 15) (v := 0) kc_89_14 rfl rfl ?_
      refine xi_ireturn kc_89_15 mr_89 rfl ?_
      show xw J ov (d + 1) 94 (4, [(0, .ref 0), (1, .int x1), (2, .int x2), (3, .int x3)], [.int 0], h) _
      refine xi_ift (pc' := 17) kc_94_4 rfl rfl ?_
      refine xi_aload_n (pc' := 18) (x := 0) kc_94_17 rfl rfl ?_
      refine xi_iconst (pc' := 19) (v := (-1)) kc_94_18 rfl rfl ?_
      refine xp_0 K.1 (fun u11 u12 bu11 bu12 A13 => ?_)
      refine xi_virtual (mj := 90) (as := [.int (-1)]) (st1 := []) (lv0 := [(0, .ref 0), (1, .int (-1))]) kc_94_19 rfl rfl rfl rfl rfl A13 (Nat.le_of_ble_eq_true rfl) (hJ _ _ _ _ (by decide)) (xm_le ml_90 rfl) rfl ?_
      refine xi_iload_n (pc' := 1) (x := (-1)) kc_90_0 rfl rfl ?_
      refine xi_ineg (pc' := 2) (v := 1) kc_90_1 rfl rfl ?_
      refine xi_istore_n (pc' := 3) (lv' := [(2, .int 1), (0, .ref 0), (1, .int (-1))]) kc_90_2 rfl rfl (xm_lt ml_90 rfl) ?_
      refine xi_iload_n (pc' := 4) (x := 1) kc_90_3 rfl rfl ?_
      refine xi_iff (pc' := 7) kc_90_4 rfl rfl ?_
      refine xi_iload_n (pc' := 8) (x := 1) kc_90_7 rfl rfl ?_
      refine xi_aload_n (pc' := 9) (x := 0) kc_90_8 rfl rfl ?_
      refine xi_getfield (pc' := 12) (v := .ref 94) kc_90_9 rfl rfl rfl A13 rfl ?_
      refine xcps4 (xk_arr K.1 xD_94) (fun y14 A14 hy14 ry14 => ?_)
      refine xi_arraylength (pc' := 13) (n := 7) (v := 7) kc_90_12 rfl (xl_lenI (by decide) (by decide) A14 hy14) rfl ?_
      refine xi_cmf (pc' := 16) kc_90_13 rfl rfl ?_
      refine xi_aload_n (pc' := 17) (x := 0) kc_90_16 rfl rfl ?_
      refine xi_getfield (pc' := 20) (v := .ref 94) kc_90_17 rfl rfl rfl A13 rfl ?_
      refine xi_iload_n (pc' := 21) (x := 1) kc_90_20 rfl rfl ?_
      refine xi_dup2 (pc' := 22) kc_90_21 rfl ⟨rfl, rfl⟩ ?_
      refine xcps4 (xj_get hy14 ry14 (i := 1) (by decide) (by decide)) (fun v15 ev15 bv15 dv15 => ?_)
      refine xi_iaload (pc' := 23) (v := v15) kc_90_22 rfl A14 (by decide) rfl (xi_in (by decide) (by rw [hy14]; decide)) ev15 ?_
      refine xi_iconst (pc' := 24) (v := 1) kc_90_23 rfl rfl ?_
      refine xcps2 (α := Int32) ((v15 : Int32) + 1) (fun v16 ev16 => ?_)
      have rv16 := xc_rng v16
      refine xi_iadd (pc' := 25) (v := v16) kc_90_24 rfl ev16 ?_
      refine xcps4 (xj_set (v := v16) hy14 ry14 1 (by first | omega | decide) (by first | omega | decide)) (fun y17 s17 hy17 ry17 => ?_)
      refine xi_iastore (pc' := 26) (x' := y17) kc_90_25 rfl A14 rfl (xi_in (by decide) (by rw [hy14]; decide)) s17 (fun hh17 eh17 => ?_)
      have K18 := xk_pa K (xk_wa rfl) xD_94 hy17 ry17 eh17
      refine xi_iload_n (pc' := 27) (x := (-1)) kc_90_26 rfl rfl ?_
      refine xi_ireturn kc_90_27 mr_90 rfl ?_
      show xw J ov (d + 1) 94 (22, [(0, .ref 0), (1, .int x1), (2, .int x2), (3, .int x3)], [.int (-1)], hh17) _
      refine xi_ireturn kc_94_22 mr_94 rfl ?_
      have zcm1 : ((-1) : Int32).toInt = (-1) := by decide
      exact kk (-1) hh17 K18
    · refine xi_cmf (pc' := 10) kc_89_7 rfl (xc_ge_f (X := x1.toInt) (Y := 6) rfl (by decide) (by omega)) ?_
      refine xi_iconst (pc' := 11) (v := 1) kc_89_10 rfl rfl ?_
      refine xi_goto (pc' := 15) kc_89_11 rfl ?_
      refine xi_ireturn kc_89_15 mr_89 rfl ?_
      show xw J ov (d + 1) 94 (4, [(0, .ref 0), (1, .int x1), (2, .int x2), (3, .int x3)], [.int 1], h) _
      refine xi_iff (pc' := 7) kc_94_4 rfl rfl ?_
      refine xi_iload_n (pc' := 8) (x := x2) kc_94_7 rfl rfl ?_
      by_cases c19 : x2.toInt < 0
      · refine xi_ift (pc' := 17) kc_94_8 rfl (xc_lt_t (X := x2.toInt) (Y := 0) rfl (by decide) (by omega)) ?_
        refine xi_aload_n (pc' := 18) (x := 0) kc_94_17 rfl rfl ?_
        refine xi_iconst (pc' := 19) (v := (-1)) kc_94_18 rfl rfl ?_
        refine xp_0 K.1 (fun u20 u21 bu20 bu21 A22 => ?_)
        refine xi_virtual (mj := 90) (as := [.int (-1)]) (st1 := []) (lv0 := [(0, .ref 0), (1, .int (-1))]) kc_94_19 rfl rfl rfl rfl rfl A22 (Nat.le_of_ble_eq_true rfl) (hJ _ _ _ _ (by decide)) (xm_le ml_90 rfl) rfl ?_
        refine xi_iload_n (pc' := 1) (x := (-1)) kc_90_0 rfl rfl ?_
        refine xi_ineg (pc' := 2) (v := 1) kc_90_1 rfl rfl ?_
        refine xi_istore_n (pc' := 3) (lv' := [(2, .int 1), (0, .ref 0), (1, .int (-1))]) kc_90_2 rfl rfl (xm_lt ml_90 rfl) ?_
        refine xi_iload_n (pc' := 4) (x := 1) kc_90_3 rfl rfl ?_
        refine xi_iff (pc' := 7) kc_90_4 rfl rfl ?_
        refine xi_iload_n (pc' := 8) (x := 1) kc_90_7 rfl rfl ?_
        refine xi_aload_n (pc' := 9) (x := 0) kc_90_8 rfl rfl ?_
        refine xi_getfield (pc' := 12) (v := .ref 94) kc_90_9 rfl rfl rfl A22 rfl ?_
        refine xcps4 (xk_arr K.1 xD_94) (fun y23 A23 hy23 ry23 => ?_)
        refine xi_arraylength (pc' := 13) (n := 7) (v := 7) kc_90_12 rfl (xl_lenI (by decide) (by decide) A23 hy23) rfl ?_
        refine xi_cmf (pc' := 16) kc_90_13 rfl rfl ?_
        refine xi_aload_n (pc' := 17) (x := 0) kc_90_16 rfl rfl ?_
        refine xi_getfield (pc' := 20) (v := .ref 94) kc_90_17 rfl rfl rfl A22 rfl ?_
        refine xi_iload_n (pc' := 21) (x := 1) kc_90_20 rfl rfl ?_
        refine xi_dup2 (pc' := 22) kc_90_21 rfl ⟨rfl, rfl⟩ ?_
        refine xcps4 (xj_get hy23 ry23 (i := 1) (by decide) (by decide)) (fun v24 ev24 bv24 dv24 => ?_)
        refine xi_iaload (pc' := 23) (v := v24) kc_90_22 rfl A23 (by decide) rfl (xi_in (by decide) (by rw [hy23]; decide)) ev24 ?_
        refine xi_iconst (pc' := 24) (v := 1) kc_90_23 rfl rfl ?_
        refine xcps2 (α := Int32) ((v24 : Int32) + 1) (fun v25 ev25 => ?_)
        have rv25 := xc_rng v25
        refine xi_iadd (pc' := 25) (v := v25) kc_90_24 rfl ev25 ?_
        refine xcps4 (xj_set (v := v25) hy23 ry23 1 (by first | omega | decide) (by first | omega | decide)) (fun y26 s26 hy26 ry26 => ?_)
        refine xi_iastore (pc' := 26) (x' := y26) kc_90_25 rfl A23 rfl (xi_in (by decide) (by rw [hy23]; decide)) s26 (fun hh26 eh26 => ?_)
        have K27 := xk_pa K (xk_wa rfl) xD_94 hy26 ry26 eh26
        refine xi_iload_n (pc' := 27) (x := (-1)) kc_90_26 rfl rfl ?_
        refine xi_ireturn kc_90_27 mr_90 rfl ?_
        show xw J ov (d + 1) 94 (22, [(0, .ref 0), (1, .int x1), (2, .int x2), (3, .int x3)], [.int (-1)], hh26) _
        refine xi_ireturn kc_94_22 mr_94 rfl ?_
        have zcm1 : ((-1) : Int32).toInt = (-1) := by decide
        exact kk (-1) hh26 K27
      · refine xi_iff (pc' := 11) kc_94_8 rfl (xc_lt_f (X := x2.toInt) (Y := 0) rfl (by decide) (by omega)) ?_
        refine xi_iload_n (pc' := 12) (x := x2) kc_94_11 rfl rfl ?_
        refine xi_bipush (pc' := 14) (v := 24) kc_94_12 rfl rfl ?_
        by_cases c28 : x2.toInt < 24
        · refine xi_cmt (pc' := 23) kc_94_14 rfl (xc_lt_t (X := x2.toInt) (Y := 24) rfl (by decide) (by omega)) ?_
          refine xi_iload_n (pc' := 24) (x := x3) kc_94_23 rfl rfl ?_
          by_cases c29 : 0 ≤ x3.toInt
          · refine xi_ift (pc' := 34) kc_94_24 rfl (xc_ge_t (X := x3.toInt) (Y := 0) rfl (by decide) (by omega)) ?_
            refine xi_iload_n (pc' := 35) (x := x3) kc_94_34 rfl rfl ?_
            refine xi_sipush (pc' := 38) (v := 999) kc_94_35 rfl rfl ?_
            by_cases c30 : x3.toInt ≤ 999
            · refine xi_cmt (pc' := 48) kc_94_38 rfl (xc_le_t (X := x3.toInt) (Y := 999) rfl (by decide) (by omega)) ?_
              refine xi_aload_n (pc' := 49) (x := 0) kc_94_48 rfl rfl ?_
              refine xp_0 K.1 (fun u31 u32 bu31 bu32 A33 => ?_)
              refine xi_getfield (pc' := 52) (v := .ref 66) kc_94_49 rfl rfl rfl A33 rfl ?_
              refine xp_66 K.1 (fun u35 wl34 bu35 A36 => ?_)
              refine xi_virtual (mj := 91) (as := []) (st1 := []) (lv0 := [(0, .ref 66)]) kc_94_52 rfl rfl rfl rfl rfl A36 (Nat.le_of_ble_eq_true rfl) (hJ _ _ _ _ (by decide)) (xm_le ml_91 rfl) rfl ?_
              refine xi_aload_n (pc' := 1) (x := 66) kc_91_0 rfl rfl ?_
              refine xi_lconst (pc' := 2) (v := 0) kc_91_1 rfl rfl ?_
              refine xi_putfield (pc' := 5) (fs' := [.ref 1, .ref 67, .ref 70, .ref 71, .ref 72, .ref 73, .ref 74, .long 0, .int u35]) kc_91_2 rfl rfl rfl A36 rfl rfl rfl (Nat.le_of_ble_eq_true rfl) rfl (fun hh38 eh37 => ?_)
              have K39 := xk_pl (k := 7) (v := 0) K (xk_wf rfl) xD_66 A36 rfl eh37 rfl
              refine xi_return kc_91_5 mr_91 ?_
              show xw J ov (d + 1) 94 (55, [(0, .ref 0), (1, .int x1), (2, .int x2), (3, .int x3)], [], hh38) _
              refine xi_aload_n (pc' := 56) (x := 0) kc_94_55 rfl rfl ?_
              have A40 := ((eh37.2.1 0 (by decide)).trans A33)
              refine xi_getfield (pc' := 59) (v := .ref 1) kc_94_56 rfl rfl rfl A40 rfl ?_
              refine xp_1 K39.1 (fun u41 u42 bu41 bu42 A43 => ?_)
              refine xi_getfield (pc' := 62) (v := .ref 2) kc_94_59 rfl rfl rfl A43 rfl ?_
              refine xi_iload_n (pc' := 63) (x := x1) kc_94_62 rfl rfl ?_
              have A44 := xk_ex K39.1 xD_2
              obtain ⟨pt45, ept45, mpt45⟩ := xR_2 (i := x1) (by omega) (by omega)
              refine xj_aaload (pc' := 64) (b := pt45) kc_94_63 rfl A44 rfl (xi_in (n := 6) (by omega) (by omega)) ept45 ?_
              obtain ⟨pt46, pt47, mpt46, mpt47, A48⟩ := xg_room K39.1 mpt45
              refine xi_getfield (pc' := 67) (v := .ref pt47) kc_94_64 rfl rfl rfl A48 rfl ?_
              refine xi_astore (pc' := 69) (lv' := [(4, .ref pt47), (0, .ref 0), (1, .int x1), (2, .int x2), (3, .int x3)]) kc_94_67 rfl rfl (xm_lt ml_94 rfl) ?_
              refine xi_aload (pc' := 71) (x := pt47) kc_94_69 rfl rfl ?_
              refine xi_iload_n (pc' := 72) (x := x2) kc_94_71 rfl rfl ?_
              refine xcps4 (xk_arr K39.1 (xGD_room1 mpt47)) (fun y49 A49 hy49 ry49 => ?_)
              refine xcps4 (xj_get hy49 ry49 (i := x2) (by omega) (by omega)) (fun v50 ev50 bv50 dv50 => ?_)
              refine xi_iaload (pc' := 73) (v := v50) kc_94_72 rfl A49 (xk_lo mpt47 rfl) rfl (xi_in (by omega) (by rw [hy49]; omega)) ev50 ?_
              refine xi_istore (pc' := 75) (lv' := [(5, .int v50), (4, .ref pt47), (0, .ref 0), (1, .int x1), (2, .int x2), (3, .int x3)]) kc_94_73 rfl rfl (xm_lt ml_94 rfl) ?_
              refine xi_aload (pc' := 77) (x := pt47) kc_94_75 rfl rfl ?_
              refine xi_iload_n (pc' := 78) (x := x2) kc_94_77 rfl rfl ?_
              refine xi_iload_n (pc' := 79) (x := x3) kc_94_78 rfl rfl ?_
              refine xcps4 (xj_set (v := x3) hy49 ry49 x2 (by first | omega | decide) (by first | omega | decide)) (fun y51 s51 hy51 ry51 => ?_)
              refine xi_iastore (pc' := 80) (x' := y51) kc_94_79 rfl A49 rfl (xi_in (by omega) (by rw [hy49]; omega)) s51 (fun hh51 eh51 => ?_)
              have K52 := xk_pa K39 (xk_ga mpt47 rfl) (xGD_room1 mpt47) hy51 ry51 eh51
              refine xi_iload (pc' := 82) (x := v50) kc_94_80 rfl rfl ?_
              refine xi_ireturn kc_94_82 mr_94 rfl ?_
              exact kk v50 hh51 K52
            · refine xi_cmf (pc' := 41) kc_94_38 rfl (xc_le_f (X := x3.toInt) (Y := 999) rfl (by decide) (by omega)) ?_
              refine xi_aload_n (pc' := 42) (x := 0) kc_94_41 rfl rfl ?_
              refine xi_bipush (pc' := 44) (v := (-6)) kc_94_42 rfl rfl ?_
              refine xp_0 K.1 (fun u53 u54 bu53 bu54 A55 => ?_)
              refine xi_virtual (mj := 90) (as := [.int (-6)]) (st1 := []) (lv0 := [(0, .ref 0), (1, .int (-6))]) kc_94_44 rfl rfl rfl rfl rfl A55 (Nat.le_of_ble_eq_true rfl) (hJ _ _ _ _ (by decide)) (xm_le ml_90 rfl) rfl ?_
              refine xi_iload_n (pc' := 1) (x := (-6)) kc_90_0 rfl rfl ?_
              refine xi_ineg (pc' := 2) (v := 6) kc_90_1 rfl rfl ?_
              refine xi_istore_n (pc' := 3) (lv' := [(2, .int 6), (0, .ref 0), (1, .int (-6))]) kc_90_2 rfl rfl (xm_lt ml_90 rfl) ?_
              refine xi_iload_n (pc' := 4) (x := 6) kc_90_3 rfl rfl ?_
              refine xi_iff (pc' := 7) kc_90_4 rfl rfl ?_
              refine xi_iload_n (pc' := 8) (x := 6) kc_90_7 rfl rfl ?_
              refine xi_aload_n (pc' := 9) (x := 0) kc_90_8 rfl rfl ?_
              refine xi_getfield (pc' := 12) (v := .ref 94) kc_90_9 rfl rfl rfl A55 rfl ?_
              refine xcps4 (xk_arr K.1 xD_94) (fun y56 A56 hy56 ry56 => ?_)
              refine xi_arraylength (pc' := 13) (n := 7) (v := 7) kc_90_12 rfl (xl_lenI (by decide) (by decide) A56 hy56) rfl ?_
              refine xi_cmf (pc' := 16) kc_90_13 rfl rfl ?_
              refine xi_aload_n (pc' := 17) (x := 0) kc_90_16 rfl rfl ?_
              refine xi_getfield (pc' := 20) (v := .ref 94) kc_90_17 rfl rfl rfl A55 rfl ?_
              refine xi_iload_n (pc' := 21) (x := 6) kc_90_20 rfl rfl ?_
              refine xi_dup2 (pc' := 22) kc_90_21 rfl ⟨rfl, rfl⟩ ?_
              refine xcps4 (xj_get hy56 ry56 (i := 6) (by decide) (by decide)) (fun v57 ev57 bv57 dv57 => ?_)
              refine xi_iaload (pc' := 23) (v := v57) kc_90_22 rfl A56 (by decide) rfl (xi_in (by decide) (by rw [hy56]; decide)) ev57 ?_
              refine xi_iconst (pc' := 24) (v := 1) kc_90_23 rfl rfl ?_
              refine xcps2 (α := Int32) ((v57 : Int32) + 1) (fun v58 ev58 => ?_)
              have rv58 := xc_rng v58
              refine xi_iadd (pc' := 25) (v := v58) kc_90_24 rfl ev58 ?_
              refine xcps4 (xj_set (v := v58) hy56 ry56 6 (by first | omega | decide) (by first | omega | decide)) (fun y59 s59 hy59 ry59 => ?_)
              refine xi_iastore (pc' := 26) (x' := y59) kc_90_25 rfl A56 rfl (xi_in (by decide) (by rw [hy56]; decide)) s59 (fun hh59 eh59 => ?_)
              have K60 := xk_pa K (xk_wa rfl) xD_94 hy59 ry59 eh59
              refine xi_iload_n (pc' := 27) (x := (-6)) kc_90_26 rfl rfl ?_
              refine xi_ireturn kc_90_27 mr_90 rfl ?_
              show xw J ov (d + 1) 94 (47, [(0, .ref 0), (1, .int x1), (2, .int x2), (3, .int x3)], [.int (-6)], hh59) _
              refine xi_ireturn kc_94_47 mr_94 rfl ?_
              have zcm6 : ((-6) : Int32).toInt = (-6) := by decide
              exact kk (-6) hh59 K60
          · refine xi_iff (pc' := 27) kc_94_24 rfl (xc_ge_f (X := x3.toInt) (Y := 0) rfl (by decide) (by omega)) ?_
            refine xi_aload_n (pc' := 28) (x := 0) kc_94_27 rfl rfl ?_
            refine xi_bipush (pc' := 30) (v := (-4)) kc_94_28 rfl rfl ?_
            refine xp_0 K.1 (fun u61 u62 bu61 bu62 A63 => ?_)
            refine xi_virtual (mj := 90) (as := [.int (-4)]) (st1 := []) (lv0 := [(0, .ref 0), (1, .int (-4))]) kc_94_30 rfl rfl rfl rfl rfl A63 (Nat.le_of_ble_eq_true rfl) (hJ _ _ _ _ (by decide)) (xm_le ml_90 rfl) rfl ?_
            refine xi_iload_n (pc' := 1) (x := (-4)) kc_90_0 rfl rfl ?_
            refine xi_ineg (pc' := 2) (v := 4) kc_90_1 rfl rfl ?_
            refine xi_istore_n (pc' := 3) (lv' := [(2, .int 4), (0, .ref 0), (1, .int (-4))]) kc_90_2 rfl rfl (xm_lt ml_90 rfl) ?_
            refine xi_iload_n (pc' := 4) (x := 4) kc_90_3 rfl rfl ?_
            refine xi_iff (pc' := 7) kc_90_4 rfl rfl ?_
            refine xi_iload_n (pc' := 8) (x := 4) kc_90_7 rfl rfl ?_
            refine xi_aload_n (pc' := 9) (x := 0) kc_90_8 rfl rfl ?_
            refine xi_getfield (pc' := 12) (v := .ref 94) kc_90_9 rfl rfl rfl A63 rfl ?_
            refine xcps4 (xk_arr K.1 xD_94) (fun y64 A64 hy64 ry64 => ?_)
            refine xi_arraylength (pc' := 13) (n := 7) (v := 7) kc_90_12 rfl (xl_lenI (by decide) (by decide) A64 hy64) rfl ?_
            refine xi_cmf (pc' := 16) kc_90_13 rfl rfl ?_
            refine xi_aload_n (pc' := 17) (x := 0) kc_90_16 rfl rfl ?_
            refine xi_getfield (pc' := 20) (v := .ref 94) kc_90_17 rfl rfl rfl A63 rfl ?_
            refine xi_iload_n (pc' := 21) (x := 4) kc_90_20 rfl rfl ?_
            refine xi_dup2 (pc' := 22) kc_90_21 rfl ⟨rfl, rfl⟩ ?_
            refine xcps4 (xj_get hy64 ry64 (i := 4) (by decide) (by decide)) (fun v65 ev65 bv65 dv65 => ?_)
            refine xi_iaload (pc' := 23) (v := v65) kc_90_22 rfl A64 (by decide) rfl (xi_in (by decide) (by rw [hy64]; decide)) ev65 ?_
            refine xi_iconst (pc' := 24) (v := 1) kc_90_23 rfl rfl ?_
            refine xcps2 (α := Int32) ((v65 : Int32) + 1) (fun v66 ev66 => ?_)
            have rv66 := xc_rng v66
            refine xi_iadd (pc' := 25) (v := v66) kc_90_24 rfl ev66 ?_
            refine xcps4 (xj_set (v := v66) hy64 ry64 4 (by first | omega | decide) (by first | omega | decide)) (fun y67 s67 hy67 ry67 => ?_)
            refine xi_iastore (pc' := 26) (x' := y67) kc_90_25 rfl A64 rfl (xi_in (by decide) (by rw [hy64]; decide)) s67 (fun hh67 eh67 => ?_)
            have K68 := xk_pa K (xk_wa rfl) xD_94 hy67 ry67 eh67
            refine xi_iload_n (pc' := 27) (x := (-4)) kc_90_26 rfl rfl ?_
            refine xi_ireturn kc_90_27 mr_90 rfl ?_
            show xw J ov (d + 1) 94 (33, [(0, .ref 0), (1, .int x1), (2, .int x2), (3, .int x3)], [.int (-4)], hh67) _
            refine xi_ireturn kc_94_33 mr_94 rfl ?_
            have zcm4 : ((-4) : Int32).toInt = (-4) := by decide
            exact kk (-4) hh67 K68
        · refine xi_cmf (pc' := 17) kc_94_14 rfl (xc_lt_f (X := x2.toInt) (Y := 24) rfl (by decide) (by omega)) ?_
          refine xi_aload_n (pc' := 18) (x := 0) kc_94_17 rfl rfl ?_
          refine xi_iconst (pc' := 19) (v := (-1)) kc_94_18 rfl rfl ?_
          refine xp_0 K.1 (fun u69 u70 bu69 bu70 A71 => ?_)
          refine xi_virtual (mj := 90) (as := [.int (-1)]) (st1 := []) (lv0 := [(0, .ref 0), (1, .int (-1))]) kc_94_19 rfl rfl rfl rfl rfl A71 (Nat.le_of_ble_eq_true rfl) (hJ _ _ _ _ (by decide)) (xm_le ml_90 rfl) rfl ?_
          refine xi_iload_n (pc' := 1) (x := (-1)) kc_90_0 rfl rfl ?_
          refine xi_ineg (pc' := 2) (v := 1) kc_90_1 rfl rfl ?_
          refine xi_istore_n (pc' := 3) (lv' := [(2, .int 1), (0, .ref 0), (1, .int (-1))]) kc_90_2 rfl rfl (xm_lt ml_90 rfl) ?_
          refine xi_iload_n (pc' := 4) (x := 1) kc_90_3 rfl rfl ?_
          refine xi_iff (pc' := 7) kc_90_4 rfl rfl ?_
          refine xi_iload_n (pc' := 8) (x := 1) kc_90_7 rfl rfl ?_
          refine xi_aload_n (pc' := 9) (x := 0) kc_90_8 rfl rfl ?_
          refine xi_getfield (pc' := 12) (v := .ref 94) kc_90_9 rfl rfl rfl A71 rfl ?_
          refine xcps4 (xk_arr K.1 xD_94) (fun y72 A72 hy72 ry72 => ?_)
          refine xi_arraylength (pc' := 13) (n := 7) (v := 7) kc_90_12 rfl (xl_lenI (by decide) (by decide) A72 hy72) rfl ?_
          refine xi_cmf (pc' := 16) kc_90_13 rfl rfl ?_
          refine xi_aload_n (pc' := 17) (x := 0) kc_90_16 rfl rfl ?_
          refine xi_getfield (pc' := 20) (v := .ref 94) kc_90_17 rfl rfl rfl A71 rfl ?_
          refine xi_iload_n (pc' := 21) (x := 1) kc_90_20 rfl rfl ?_
          refine xi_dup2 (pc' := 22) kc_90_21 rfl ⟨rfl, rfl⟩ ?_
          refine xcps4 (xj_get hy72 ry72 (i := 1) (by decide) (by decide)) (fun v73 ev73 bv73 dv73 => ?_)
          refine xi_iaload (pc' := 23) (v := v73) kc_90_22 rfl A72 (by decide) rfl (xi_in (by decide) (by rw [hy72]; decide)) ev73 ?_
          refine xi_iconst (pc' := 24) (v := 1) kc_90_23 rfl rfl ?_
          refine xcps2 (α := Int32) ((v73 : Int32) + 1) (fun v74 ev74 => ?_)
          have rv74 := xc_rng v74
          refine xi_iadd (pc' := 25) (v := v74) kc_90_24 rfl ev74 ?_
          refine xcps4 (xj_set (v := v74) hy72 ry72 1 (by first | omega | decide) (by first | omega | decide)) (fun y75 s75 hy75 ry75 => ?_)
          refine xi_iastore (pc' := 26) (x' := y75) kc_90_25 rfl A72 rfl (xi_in (by decide) (by rw [hy72]; decide)) s75 (fun hh75 eh75 => ?_)
          have K76 := xk_pa K (xk_wa rfl) xD_94 hy75 ry75 eh75
          refine xi_iload_n (pc' := 27) (x := (-1)) kc_90_26 rfl rfl ?_
          refine xi_ireturn kc_90_27 mr_90 rfl ?_
          show xw J ov (d + 1) 94 (22, [(0, .ref 0), (1, .int x1), (2, .int x2), (3, .int x3)], [.int (-1)], hh75) _
          refine xi_ireturn kc_94_22 mr_94 rfl ?_
          have zcm1 : ((-1) : Int32).toInt = (-1) := by decide
          exact kk (-1) hh75 K76
set_option maxHeartbeats 4000000 in
theorem lp_98_0 {J : xe_J} {ov : List (List Int32)} (hJ : ∀ d mj as h, mj ≠ xe_loff → J d mj as h = none) (hov1 : ov[1]? = some [10, 0, 0, 0, 0, 0]) (hov2 : ov[2]? = some [99, 30, 50, 50, 1, 99999]) {d : Nat} {Q : Option Value → xe_H → Prop} {hb : xe_H} (kk : (∀ (r : Int32) (h' : xe_H), xk [(0, 9), (115, 1), (83, 0), (85, 8), (115, 56)] hb h' → Q (some (.int r)) h')) : ∀ m : Nat, (∀ (x3 : Int32) (x4 : Int32) (x5 : Int32) (h : xe_H), (0 ≤ x5.toInt ∧ x5.toInt ≤ 601) → xk [(0, 9), (115, 1), (83, 0), (85, 8), (115, 56)] hb h → (-1) * x5.toInt + 601 < (m : Int) → xw J ov (d + 1) 98 (42, [(0, .ref 5), (3, .int x3), (4, .int x4), (5, .int x5)], [], h) Q) := by
  intro m
  induction m with
  | zero =>
    intro x3 x4 x5 h b5 K hm; have rx3 := xc_rng x3; have rx4 := xc_rng x4; exfalso; omega
  | succ m ih =>
    have i0 := ih
    intro x3 x4 x5 h b5 K hm
    have rx3 := xc_rng x3
    have rx4 := xc_rng x4
    refine xi_iload (pc' := 44) (x := x5) kc_98_42 rfl rfl ?_
    refine xi_aload_n (pc' := 45) (x := 5) kc_98_44 rfl rfl ?_
    refine xp_5 K.1 (fun u1 bu1 A2 => ?_)
    refine xi_getfield (pc' := 48) (v := .ref 6) kc_98_45 rfl rfl rfl A2 rfl ?_
    refine xcps4 (xk_arr K.1 xD_6) (fun y3 A3 hy3 ry3 => ?_)
    refine xi_arraylength (pc' := 49) (n := 601) (v := 601) kc_98_48 rfl (xl_lenI (by decide) (by decide) A3 hy3) rfl ?_
    by_cases c4 : 601 ≤ x5.toInt
    · refine xi_cmt (pc' := 88) kc_98_49 rfl (xc_ge_t (X := x5.toInt) (Y := 601) rfl (by decide) (by omega)) ?_
      refine xi_iload_n (pc' := 89) (x := x3) kc_98_88 rfl rfl ?_
      refine xi_ireturn kc_98_89 mr_98 rfl ?_
      exact kk x3 h K
    · refine xi_cmf (pc' := 52) kc_98_49 rfl (xc_ge_f (X := x5.toInt) (Y := 601) rfl (by decide) (by omega)) ?_
      refine xi_aload_n (pc' := 53) (x := 5) kc_98_52 rfl rfl ?_
      refine xi_getfield (pc' := 56) (v := .ref 6) kc_98_53 rfl rfl rfl A2 rfl ?_
      refine xi_iload (pc' := 58) (x := x5) kc_98_56 rfl rfl ?_
      refine xcps4 (xj_get hy3 ry3 (i := x5) (by omega) (by omega)) (fun v5 ev5 bv5 dv5 => ?_)
      refine xi_iaload (pc' := 59) (v := v5) kc_98_58 rfl A3 (by decide) rfl (xi_in (by omega) (by rw [hy3]; omega)) ev5 ?_
      refine xi_bipush (pc' := 61) (v := 99) kc_98_59 rfl rfl ?_
      by_cases c6 : v5.toInt = 99
      · refine xi_cmt (pc' := 73) kc_98_61 rfl (xc_eq_t (X := v5.toInt) (Y := 99) rfl (by decide) (by omega)) ?_
        refine xi_aload_n (pc' := 74) (x := 5) kc_98_73 rfl rfl ?_
        refine xi_getfield (pc' := 77) (v := .ref 7) kc_98_74 rfl rfl rfl A2 rfl ?_
        refine xi_iload (pc' := 79) (x := x5) kc_98_77 rfl rfl ?_
        refine xi_iload (pc' := 81) (x := x4) kc_98_79 rfl rfl ?_
        refine xcps4 (xk_arr K.1 xD_7) (fun y7 A7 hy7 ry7 => ?_)
        refine xcps4 (xj_set (v := x4) hy7 ry7 x5 (by first | omega | decide) (by first | omega | decide)) (fun y8 s8 hy8 ry8 => ?_)
        refine xi_iastore (pc' := 82) (x' := y8) kc_98_81 rfl A7 rfl (xi_in (by omega) (by rw [hy7]; omega)) s8 (fun hh8 eh8 => ?_)
        have K9 := xk_pa K (xk_wa rfl) xD_7 hy8 ry8 eh8
        refine xcps2 (α := Int32) (x5 + 1) (fun v10 ev10 => ?_)
        have zv10 : v10.toInt = (x5.toInt + 1) := by rw [← ev10]; exact (xz_add (X := x5.toInt) (Y := 1) rfl (by decide) (by omega) (by omega)).trans (by omega)
        refine xi_iinc (pc' := 85) (x := x5) (v := v10) (lv' := [(5, .int v10), (0, .ref 5), (3, .int x3), (4, .int x4)]) kc_98_82 rfl rfl ev10 rfl (xm_lt ml_98 rfl) ?_
        refine xi_goto (pc' := 42) kc_98_85 rfl ?_
        refine xw_lv (b := [(0, .ref 5), (3, .int x3), (4, .int x4), (5, .int v10)]) (lvS_cons (lvS_cons (lvS_cons (lvS_cons (lvS_nil (show ([5, 0, 3, 4] : List Nat).Nodup by decide)) rfl) rfl) rfl) rfl) ?_
        exact i0 x3 x4 v10 hh8 (by omega) K9 (by omega)
      · refine xi_cmf (pc' := 64) kc_98_61 rfl (xc_eq_f (X := v5.toInt) (Y := 99) rfl (by decide) (by omega)) ?_
        refine xi_aload_n (pc' := 65) (x := 5) kc_98_64 rfl rfl ?_
        refine xi_getfield (pc' := 68) (v := .ref 6) kc_98_65 rfl rfl rfl A2 rfl ?_
        refine xi_iload (pc' := 70) (x := x5) kc_98_68 rfl rfl ?_
        refine xi_iaload (pc' := 71) (v := v5) kc_98_70 rfl A3 (by decide) rfl (xi_in (by omega) (by rw [hy3]; omega)) ev5 ?_
        refine xi_istore (pc' := 73) (lv' := [(4, .int v5), (0, .ref 5), (3, .int x3), (5, .int x5)]) kc_98_71 rfl rfl (xm_lt ml_98 rfl) ?_
        refine xi_aload_n (pc' := 74) (x := 5) kc_98_73 rfl rfl ?_
        refine xi_getfield (pc' := 77) (v := .ref 7) kc_98_74 rfl rfl rfl A2 rfl ?_
        refine xi_iload (pc' := 79) (x := x5) kc_98_77 rfl rfl ?_
        refine xi_iload (pc' := 81) (x := v5) kc_98_79 rfl rfl ?_
        refine xcps4 (xk_arr K.1 xD_7) (fun y11 A11 hy11 ry11 => ?_)
        refine xcps4 (xj_set (v := v5) hy11 ry11 x5 (by first | omega | decide) (by first | omega | decide)) (fun y12 s12 hy12 ry12 => ?_)
        refine xi_iastore (pc' := 82) (x' := y12) kc_98_81 rfl A11 rfl (xi_in (by omega) (by rw [hy11]; omega)) s12 (fun hh12 eh12 => ?_)
        have K13 := xk_pa K (xk_wa rfl) xD_7 hy12 ry12 eh12
        refine xcps2 (α := Int32) (x5 + 1) (fun v14 ev14 => ?_)
        have zv14 : v14.toInt = (x5.toInt + 1) := by rw [← ev14]; exact (xz_add (X := x5.toInt) (Y := 1) rfl (by decide) (by omega) (by omega)).trans (by omega)
        refine xi_iinc (pc' := 85) (x := x5) (v := v14) (lv' := [(5, .int v14), (4, .int v5), (0, .ref 5), (3, .int x3)]) kc_98_82 rfl rfl ev14 rfl (xm_lt ml_98 rfl) ?_
        refine xi_goto (pc' := 42) kc_98_85 rfl ?_
        refine xw_lv (b := [(0, .ref 5), (3, .int x3), (4, .int v5), (5, .int v14)]) (lvS_cons (lvS_cons (lvS_cons (lvS_cons (lvS_nil (show ([5, 4, 0, 3] : List Nat).Nodup by decide)) rfl) rfl) rfl) rfl) ?_
        exact i0 x3 v5 v14 hh12 (by omega) K13 (by omega)
set_option maxHeartbeats 4000000 in
theorem mt_98_0 {J : xe_J} {ov : List (List Int32)} (hJ : ∀ d mj as h, mj ≠ xe_loff → J d mj as h = none) (hov1 : ov[1]? = some [10, 0, 0, 0, 0, 0]) (hov2 : ov[2]? = some [99, 30, 50, 50, 1, 99999]) {d : Nat} {Q : Option Value → xe_H → Prop} {h : xe_H} {x1 : Int32} {x2 : Int32} (T : xt h) (b1 : (0 ≤ x1.toInt ∧ x1.toInt ≤ 599)) (b2 : ((-20) ≤ x2.toInt ∧ x2.toInt ≤ 99)) (kk : (∀ (r : Int32) (h' : xe_H), xk [(0, 9), (115, 1), (83, 0), (85, 8), (115, 56)] h h' → Q (some (.int r)) h')) : xw J ov (d + 1) 98 (0, [(0, .ref 5), (1, .int x1), (2, .int x2)], [], h) Q := by
  have K : xk [(0, 9), (115, 1), (83, 0), (85, 8), (115, 56)] h h := xk_re T
  refine xi_iload_n (pc' := 1) (x := x1) kc_98_0 rfl rfl ?_
  refine xi_iff (pc' := 4) kc_98_1 rfl (xc_lt_f (X := x1.toInt) (Y := 0) rfl (by decide) (by omega)) ?_
  refine xi_iload_n (pc' := 5) (x := x1) kc_98_4 rfl rfl ?_
  refine xi_aload_n (pc' := 6) (x := 5) kc_98_5 rfl rfl ?_
  refine xp_5 K.1 (fun u1 bu1 A2 => ?_)
  refine xi_getfield (pc' := 9) (v := .ref 6) kc_98_6 rfl rfl rfl A2 rfl ?_
  refine xcps4 (xk_arr K.1 xD_6) (fun y3 A3 hy3 ry3 => ?_)
  refine xi_arraylength (pc' := 10) (n := 601) (v := 601) kc_98_9 rfl (xl_lenI (by decide) (by decide) A3 hy3) rfl ?_
  refine xi_cmt (pc' := 16) kc_98_10 rfl (xc_lt_t (X := x1.toInt) (Y := 601) rfl (by decide) (by omega)) ?_
  refine xi_aload_n (pc' := 17) (x := 5) kc_98_16 rfl rfl ?_
  refine xi_getfield (pc' := 20) (v := .ref 6) kc_98_17 rfl rfl rfl A2 rfl ?_
  refine xi_iload_n (pc' := 21) (x := x1) kc_98_20 rfl rfl ?_
  refine xcps4 (xj_get hy3 ry3 (i := x1) (by omega) (by omega)) (fun v4 ev4 bv4 dv4 => ?_)
  refine xi_iaload (pc' := 22) (v := v4) kc_98_21 rfl A3 (by decide) rfl (xi_in (by omega) (by rw [hy3]; omega)) ev4 ?_
  refine xi_istore_n (pc' := 23) (lv' := [(3, .int v4), (0, .ref 5), (1, .int x1), (2, .int x2)]) kc_98_22 rfl rfl (xm_lt ml_98 rfl) ?_
  refine xi_aload_n (pc' := 24) (x := 5) kc_98_23 rfl rfl ?_
  refine xi_getfield (pc' := 27) (v := .ref 6) kc_98_24 rfl rfl rfl A2 rfl ?_
  refine xi_iload_n (pc' := 28) (x := x1) kc_98_27 rfl rfl ?_
  refine xi_iload_n (pc' := 29) (x := x2) kc_98_28 rfl rfl ?_
  refine xcps4 (xj_set (v := x2) hy3 ry3 x1 (by first | omega | decide) (by first | omega | decide)) (fun y5 s5 hy5 ry5 => ?_)
  refine xi_iastore (pc' := 30) (x' := y5) kc_98_29 rfl A3 rfl (xi_in (by omega) (by rw [hy3]; omega)) s5 (fun hh5 eh5 => ?_)
  have K6 := xk_pa K (xk_wa rfl) xD_6 hy5 ry5 eh5
  refine xi_aload_n (pc' := 31) (x := 5) kc_98_30 rfl rfl ?_
  refine xi_iload_n (pc' := 32) (x := x1) kc_98_31 rfl rfl ?_
  refine xi_iconst (pc' := 33) (v := 1) kc_98_32 rfl rfl ?_
  refine xcps2 (α := Int32) (x1 - 1) (fun v7 ev7 => ?_)
  have zv7 : v7.toInt = (x1.toInt + (-1)) := by rw [← ev7]; exact (xz_sub (X := x1.toInt) (Y := 1) rfl (by decide) (by omega) (by omega)).trans (by omega)
  refine xi_isub (pc' := 34) (v := v7) kc_98_33 rfl ev7 ?_
  have A8 := ((eh5.2.1 5 (by decide)).trans A2)
  refine xi_virtual (mj := 99) (as := [.int v7]) (st1 := []) (lv0 := [(0, .ref 5), (1, .int v7)]) kc_98_34 rfl rfl rfl rfl rfl A8 (Nat.le_of_ble_eq_true rfl) (hJ _ _ _ _ (by decide)) (xm_le ml_99 rfl) rfl ?_
  refine xi_iload_n (pc' := 1) (x := v7) kc_99_0 rfl rfl ?_
  by_cases c9 : (x1.toInt + (-1)) < 0
  · refine xi_ift (pc' := 13) kc_99_1 rfl (xc_lt_t (X := (x1.toInt + (-1))) (Y := 0) zv7 (by decide) (by omega)) ?_
    refine xi_aload_n (pc' := 14) (x := 5) kc_99_13 rfl rfl ?_
    refine xi_getfield (pc' := 17) (v := .int u1) kc_99_14 rfl rfl rfl A8 rfl ?_
    refine xi_goto (pc' := 26) kc_99_17 rfl ?_
    refine xi_ireturn kc_99_26 mr_99 rfl ?_
    show xw J ov (d + 1) 98 (37, [(3, .int v4), (0, .ref 5), (1, .int x1), (2, .int x2)], [.int u1], hh5) _
    refine xi_istore (pc' := 39) (lv' := [(4, .int u1), (3, .int v4), (0, .ref 5), (1, .int x1), (2, .int x2)]) kc_98_37 rfl rfl (xm_lt ml_98 rfl) ?_
    refine xi_iload_n (pc' := 40) (x := x1) kc_98_39 rfl rfl ?_
    refine xi_istore (pc' := 42) (lv' := [(5, .int x1), (4, .int u1), (3, .int v4), (0, .ref 5), (1, .int x1), (2, .int x2)]) kc_98_40 rfl rfl (xm_lt ml_98 rfl) ?_
    refine xw_lv (b := [(0, .ref 5), (3, .int v4), (4, .int u1), (5, .int x1)]) (lvS_cons (lvS_cons (lvS_cons (lvS_cons (lvS_nil (show ([5, 4, 3, 0, 1, 2] : List Nat).Nodup by decide)) rfl) rfl) rfl) rfl) ?_
    exact (lp_98_0 hJ hov1 hov2 (d := d) (hb := hh5) (fun r9 h9 K9 => kk r9 h9 (xk_tr K6 K9 rfl)) 602) v4 u1 x1 hh5 (by omega) (xk_re K6.1) (by omega)
  · refine xi_iff (pc' := 4) kc_99_1 rfl (xc_lt_f (X := (x1.toInt + (-1))) (Y := 0) zv7 (by decide) (by omega)) ?_
    refine xi_iload_n (pc' := 5) (x := v7) kc_99_4 rfl rfl ?_
    refine xi_aload_n (pc' := 6) (x := 5) kc_99_5 rfl rfl ?_
    refine xi_getfield (pc' := 9) (v := .ref 7) kc_99_6 rfl rfl rfl A8 rfl ?_
    refine xcps4 (xk_arr K6.1 xD_7) (fun y10 A10 hy10 ry10 => ?_)
    refine xi_arraylength (pc' := 10) (n := 601) (v := 601) kc_99_9 rfl (xl_lenI (by decide) (by decide) A10 hy10) rfl ?_
    refine xi_cmt (pc' := 20) kc_99_10 rfl (xc_lt_t (X := (x1.toInt + (-1))) (Y := 601) zv7 (by decide) (by omega)) ?_
    refine xi_aload_n (pc' := 21) (x := 5) kc_99_20 rfl rfl ?_
    refine xi_getfield (pc' := 24) (v := .ref 7) kc_99_21 rfl rfl rfl A8 rfl ?_
    refine xi_iload_n (pc' := 25) (x := v7) kc_99_24 rfl rfl ?_
    refine xcps4 (xj_get hy10 ry10 (i := v7) (by rw [zv7]; omega) (by rw [zv7]; omega)) (fun v11 ev11 bv11 dv11 => ?_)
    refine xi_iaload (pc' := 26) (v := v11) kc_99_25 rfl A10 (by decide) rfl (xi_in (by rw [zv7]; omega) (by rw [hy10]; rw [zv7]; omega)) ev11 ?_
    refine xi_ireturn kc_99_26 mr_99 rfl ?_
    show xw J ov (d + 1) 98 (37, [(3, .int v4), (0, .ref 5), (1, .int x1), (2, .int x2)], [.int v11], hh5) _
    refine xi_istore (pc' := 39) (lv' := [(4, .int v11), (3, .int v4), (0, .ref 5), (1, .int x1), (2, .int x2)]) kc_98_37 rfl rfl (xm_lt ml_98 rfl) ?_
    refine xi_iload_n (pc' := 40) (x := x1) kc_98_39 rfl rfl ?_
    refine xi_istore (pc' := 42) (lv' := [(5, .int x1), (4, .int v11), (3, .int v4), (0, .ref 5), (1, .int x1), (2, .int x2)]) kc_98_40 rfl rfl (xm_lt ml_98 rfl) ?_
    refine xw_lv (b := [(0, .ref 5), (3, .int v4), (4, .int v11), (5, .int x1)]) (lvS_cons (lvS_cons (lvS_cons (lvS_cons (lvS_nil (show ([5, 4, 3, 0, 1, 2] : List Nat).Nodup by decide)) rfl) rfl) rfl) rfl) ?_
    exact (lp_98_0 hJ hov1 hov2 (d := d) (hb := hh5) (fun r9 h9 K9 => kk r9 h9 (xk_tr K6 K9 rfl)) 602) v4 v11 x1 hh5 (by omega) (xk_re K6.1) (by omega)
set_option maxHeartbeats 4000000 in
theorem lp_98_1 {J : xe_J} {ov : List (List Int32)} (hJ : ∀ d mj as h, mj ≠ xe_loff → J d mj as h = none) (hov1 : ov[1]? = some [10, 0, 0, 0, 0, 0]) (hov2 : ov[2]? = some [99, 30, 50, 50, 1, 99999]) {d : Nat} {Q : Option Value → xe_H → Prop} {hb : xe_H} (kk : (∀ (r : Int32) (h' : xe_H), xk [(0, 9), (115, 1), (83, 0), (85, 8), (115, 56)] hb h' → Q (some (.int r)) h')) : ∀ m : Nat, (∀ (x3 : Int32) (x4 : Int32) (x5 : Int32) (h : xe_H), (0 ≤ x5.toInt ∧ x5.toInt ≤ 601) → xk [(0, 9), (115, 1), (83, 0), (85, 8), (115, 56)] hb h → (-1) * x5.toInt + 601 < (m : Int) → xw J ov (d + 1) 98 (42, [(0, .ref 8), (3, .int x3), (4, .int x4), (5, .int x5)], [], h) Q) := by
  intro m
  induction m with
  | zero =>
    intro x3 x4 x5 h b5 K hm; have rx3 := xc_rng x3; have rx4 := xc_rng x4; exfalso; omega
  | succ m ih =>
    have i0 := ih
    intro x3 x4 x5 h b5 K hm
    have rx3 := xc_rng x3
    have rx4 := xc_rng x4
    refine xi_iload (pc' := 44) (x := x5) kc_98_42 rfl rfl ?_
    refine xi_aload_n (pc' := 45) (x := 8) kc_98_44 rfl rfl ?_
    refine xp_8 K.1 (fun u1 bu1 A2 => ?_)
    refine xi_getfield (pc' := 48) (v := .ref 9) kc_98_45 rfl rfl rfl A2 rfl ?_
    refine xcps4 (xk_arr K.1 xD_9) (fun y3 A3 hy3 ry3 => ?_)
    refine xi_arraylength (pc' := 49) (n := 601) (v := 601) kc_98_48 rfl (xl_lenI (by decide) (by decide) A3 hy3) rfl ?_
    by_cases c4 : 601 ≤ x5.toInt
    · refine xi_cmt (pc' := 88) kc_98_49 rfl (xc_ge_t (X := x5.toInt) (Y := 601) rfl (by decide) (by omega)) ?_
      refine xi_iload_n (pc' := 89) (x := x3) kc_98_88 rfl rfl ?_
      refine xi_ireturn kc_98_89 mr_98 rfl ?_
      exact kk x3 h K
    · refine xi_cmf (pc' := 52) kc_98_49 rfl (xc_ge_f (X := x5.toInt) (Y := 601) rfl (by decide) (by omega)) ?_
      refine xi_aload_n (pc' := 53) (x := 8) kc_98_52 rfl rfl ?_
      refine xi_getfield (pc' := 56) (v := .ref 9) kc_98_53 rfl rfl rfl A2 rfl ?_
      refine xi_iload (pc' := 58) (x := x5) kc_98_56 rfl rfl ?_
      refine xcps4 (xj_get hy3 ry3 (i := x5) (by omega) (by omega)) (fun v5 ev5 bv5 dv5 => ?_)
      refine xi_iaload (pc' := 59) (v := v5) kc_98_58 rfl A3 (by decide) rfl (xi_in (by omega) (by rw [hy3]; omega)) ev5 ?_
      refine xi_bipush (pc' := 61) (v := 99) kc_98_59 rfl rfl ?_
      by_cases c6 : v5.toInt = 99
      · refine xi_cmt (pc' := 73) kc_98_61 rfl (xc_eq_t (X := v5.toInt) (Y := 99) rfl (by decide) (by omega)) ?_
        refine xi_aload_n (pc' := 74) (x := 8) kc_98_73 rfl rfl ?_
        refine xi_getfield (pc' := 77) (v := .ref 10) kc_98_74 rfl rfl rfl A2 rfl ?_
        refine xi_iload (pc' := 79) (x := x5) kc_98_77 rfl rfl ?_
        refine xi_iload (pc' := 81) (x := x4) kc_98_79 rfl rfl ?_
        refine xcps4 (xk_arr K.1 xD_10) (fun y7 A7 hy7 ry7 => ?_)
        refine xcps4 (xj_set (v := x4) hy7 ry7 x5 (by first | omega | decide) (by first | omega | decide)) (fun y8 s8 hy8 ry8 => ?_)
        refine xi_iastore (pc' := 82) (x' := y8) kc_98_81 rfl A7 rfl (xi_in (by omega) (by rw [hy7]; omega)) s8 (fun hh8 eh8 => ?_)
        have K9 := xk_pa K (xk_wa rfl) xD_10 hy8 ry8 eh8
        refine xcps2 (α := Int32) (x5 + 1) (fun v10 ev10 => ?_)
        have zv10 : v10.toInt = (x5.toInt + 1) := by rw [← ev10]; exact (xz_add (X := x5.toInt) (Y := 1) rfl (by decide) (by omega) (by omega)).trans (by omega)
        refine xi_iinc (pc' := 85) (x := x5) (v := v10) (lv' := [(5, .int v10), (0, .ref 8), (3, .int x3), (4, .int x4)]) kc_98_82 rfl rfl ev10 rfl (xm_lt ml_98 rfl) ?_
        refine xi_goto (pc' := 42) kc_98_85 rfl ?_
        refine xw_lv (b := [(0, .ref 8), (3, .int x3), (4, .int x4), (5, .int v10)]) (lvS_cons (lvS_cons (lvS_cons (lvS_cons (lvS_nil (show ([5, 0, 3, 4] : List Nat).Nodup by decide)) rfl) rfl) rfl) rfl) ?_
        exact i0 x3 x4 v10 hh8 (by omega) K9 (by omega)
      · refine xi_cmf (pc' := 64) kc_98_61 rfl (xc_eq_f (X := v5.toInt) (Y := 99) rfl (by decide) (by omega)) ?_
        refine xi_aload_n (pc' := 65) (x := 8) kc_98_64 rfl rfl ?_
        refine xi_getfield (pc' := 68) (v := .ref 9) kc_98_65 rfl rfl rfl A2 rfl ?_
        refine xi_iload (pc' := 70) (x := x5) kc_98_68 rfl rfl ?_
        refine xi_iaload (pc' := 71) (v := v5) kc_98_70 rfl A3 (by decide) rfl (xi_in (by omega) (by rw [hy3]; omega)) ev5 ?_
        refine xi_istore (pc' := 73) (lv' := [(4, .int v5), (0, .ref 8), (3, .int x3), (5, .int x5)]) kc_98_71 rfl rfl (xm_lt ml_98 rfl) ?_
        refine xi_aload_n (pc' := 74) (x := 8) kc_98_73 rfl rfl ?_
        refine xi_getfield (pc' := 77) (v := .ref 10) kc_98_74 rfl rfl rfl A2 rfl ?_
        refine xi_iload (pc' := 79) (x := x5) kc_98_77 rfl rfl ?_
        refine xi_iload (pc' := 81) (x := v5) kc_98_79 rfl rfl ?_
        refine xcps4 (xk_arr K.1 xD_10) (fun y11 A11 hy11 ry11 => ?_)
        refine xcps4 (xj_set (v := v5) hy11 ry11 x5 (by first | omega | decide) (by first | omega | decide)) (fun y12 s12 hy12 ry12 => ?_)
        refine xi_iastore (pc' := 82) (x' := y12) kc_98_81 rfl A11 rfl (xi_in (by omega) (by rw [hy11]; omega)) s12 (fun hh12 eh12 => ?_)
        have K13 := xk_pa K (xk_wa rfl) xD_10 hy12 ry12 eh12
        refine xcps2 (α := Int32) (x5 + 1) (fun v14 ev14 => ?_)
        have zv14 : v14.toInt = (x5.toInt + 1) := by rw [← ev14]; exact (xz_add (X := x5.toInt) (Y := 1) rfl (by decide) (by omega) (by omega)).trans (by omega)
        refine xi_iinc (pc' := 85) (x := x5) (v := v14) (lv' := [(5, .int v14), (4, .int v5), (0, .ref 8), (3, .int x3)]) kc_98_82 rfl rfl ev14 rfl (xm_lt ml_98 rfl) ?_
        refine xi_goto (pc' := 42) kc_98_85 rfl ?_
        refine xw_lv (b := [(0, .ref 8), (3, .int x3), (4, .int v5), (5, .int v14)]) (lvS_cons (lvS_cons (lvS_cons (lvS_cons (lvS_nil (show ([5, 4, 0, 3] : List Nat).Nodup by decide)) rfl) rfl) rfl) rfl) ?_
        exact i0 x3 v5 v14 hh12 (by omega) K13 (by omega)
set_option maxHeartbeats 4000000 in
theorem mt_98_1 {J : xe_J} {ov : List (List Int32)} (hJ : ∀ d mj as h, mj ≠ xe_loff → J d mj as h = none) (hov1 : ov[1]? = some [10, 0, 0, 0, 0, 0]) (hov2 : ov[2]? = some [99, 30, 50, 50, 1, 99999]) {d : Nat} {Q : Option Value → xe_H → Prop} {h : xe_H} {x1 : Int32} {x2 : Int32} (T : xt h) (b1 : (0 ≤ x1.toInt ∧ x1.toInt ≤ 599)) (b2 : (0 ≤ x2.toInt ∧ x2.toInt ≤ 99)) (kk : (∀ (r : Int32) (h' : xe_H), xk [(0, 9), (115, 1), (83, 0), (85, 8), (115, 56)] h h' → Q (some (.int r)) h')) : xw J ov (d + 1) 98 (0, [(0, .ref 8), (1, .int x1), (2, .int x2)], [], h) Q := by
  have K : xk [(0, 9), (115, 1), (83, 0), (85, 8), (115, 56)] h h := xk_re T
  refine xi_iload_n (pc' := 1) (x := x1) kc_98_0 rfl rfl ?_
  refine xi_iff (pc' := 4) kc_98_1 rfl (xc_lt_f (X := x1.toInt) (Y := 0) rfl (by decide) (by omega)) ?_
  refine xi_iload_n (pc' := 5) (x := x1) kc_98_4 rfl rfl ?_
  refine xi_aload_n (pc' := 6) (x := 8) kc_98_5 rfl rfl ?_
  refine xp_8 K.1 (fun u1 bu1 A2 => ?_)
  refine xi_getfield (pc' := 9) (v := .ref 9) kc_98_6 rfl rfl rfl A2 rfl ?_
  refine xcps4 (xk_arr K.1 xD_9) (fun y3 A3 hy3 ry3 => ?_)
  refine xi_arraylength (pc' := 10) (n := 601) (v := 601) kc_98_9 rfl (xl_lenI (by decide) (by decide) A3 hy3) rfl ?_
  refine xi_cmt (pc' := 16) kc_98_10 rfl (xc_lt_t (X := x1.toInt) (Y := 601) rfl (by decide) (by omega)) ?_
  refine xi_aload_n (pc' := 17) (x := 8) kc_98_16 rfl rfl ?_
  refine xi_getfield (pc' := 20) (v := .ref 9) kc_98_17 rfl rfl rfl A2 rfl ?_
  refine xi_iload_n (pc' := 21) (x := x1) kc_98_20 rfl rfl ?_
  refine xcps4 (xj_get hy3 ry3 (i := x1) (by omega) (by omega)) (fun v4 ev4 bv4 dv4 => ?_)
  refine xi_iaload (pc' := 22) (v := v4) kc_98_21 rfl A3 (by decide) rfl (xi_in (by omega) (by rw [hy3]; omega)) ev4 ?_
  refine xi_istore_n (pc' := 23) (lv' := [(3, .int v4), (0, .ref 8), (1, .int x1), (2, .int x2)]) kc_98_22 rfl rfl (xm_lt ml_98 rfl) ?_
  refine xi_aload_n (pc' := 24) (x := 8) kc_98_23 rfl rfl ?_
  refine xi_getfield (pc' := 27) (v := .ref 9) kc_98_24 rfl rfl rfl A2 rfl ?_
  refine xi_iload_n (pc' := 28) (x := x1) kc_98_27 rfl rfl ?_
  refine xi_iload_n (pc' := 29) (x := x2) kc_98_28 rfl rfl ?_
  refine xcps4 (xj_set (v := x2) hy3 ry3 x1 (by first | omega | decide) (by first | omega | decide)) (fun y5 s5 hy5 ry5 => ?_)
  refine xi_iastore (pc' := 30) (x' := y5) kc_98_29 rfl A3 rfl (xi_in (by omega) (by rw [hy3]; omega)) s5 (fun hh5 eh5 => ?_)
  have K6 := xk_pa K (xk_wa rfl) xD_9 hy5 ry5 eh5
  refine xi_aload_n (pc' := 31) (x := 8) kc_98_30 rfl rfl ?_
  refine xi_iload_n (pc' := 32) (x := x1) kc_98_31 rfl rfl ?_
  refine xi_iconst (pc' := 33) (v := 1) kc_98_32 rfl rfl ?_
  refine xcps2 (α := Int32) (x1 - 1) (fun v7 ev7 => ?_)
  have zv7 : v7.toInt = (x1.toInt + (-1)) := by rw [← ev7]; exact (xz_sub (X := x1.toInt) (Y := 1) rfl (by decide) (by omega) (by omega)).trans (by omega)
  refine xi_isub (pc' := 34) (v := v7) kc_98_33 rfl ev7 ?_
  have A8 := ((eh5.2.1 8 (by decide)).trans A2)
  refine xi_virtual (mj := 99) (as := [.int v7]) (st1 := []) (lv0 := [(0, .ref 8), (1, .int v7)]) kc_98_34 rfl rfl rfl rfl rfl A8 (Nat.le_of_ble_eq_true rfl) (hJ _ _ _ _ (by decide)) (xm_le ml_99 rfl) rfl ?_
  refine xi_iload_n (pc' := 1) (x := v7) kc_99_0 rfl rfl ?_
  by_cases c9 : (x1.toInt + (-1)) < 0
  · refine xi_ift (pc' := 13) kc_99_1 rfl (xc_lt_t (X := (x1.toInt + (-1))) (Y := 0) zv7 (by decide) (by omega)) ?_
    refine xi_aload_n (pc' := 14) (x := 8) kc_99_13 rfl rfl ?_
    refine xi_getfield (pc' := 17) (v := .int u1) kc_99_14 rfl rfl rfl A8 rfl ?_
    refine xi_goto (pc' := 26) kc_99_17 rfl ?_
    refine xi_ireturn kc_99_26 mr_99 rfl ?_
    show xw J ov (d + 1) 98 (37, [(3, .int v4), (0, .ref 8), (1, .int x1), (2, .int x2)], [.int u1], hh5) _
    refine xi_istore (pc' := 39) (lv' := [(4, .int u1), (3, .int v4), (0, .ref 8), (1, .int x1), (2, .int x2)]) kc_98_37 rfl rfl (xm_lt ml_98 rfl) ?_
    refine xi_iload_n (pc' := 40) (x := x1) kc_98_39 rfl rfl ?_
    refine xi_istore (pc' := 42) (lv' := [(5, .int x1), (4, .int u1), (3, .int v4), (0, .ref 8), (1, .int x1), (2, .int x2)]) kc_98_40 rfl rfl (xm_lt ml_98 rfl) ?_
    refine xw_lv (b := [(0, .ref 8), (3, .int v4), (4, .int u1), (5, .int x1)]) (lvS_cons (lvS_cons (lvS_cons (lvS_cons (lvS_nil (show ([5, 4, 3, 0, 1, 2] : List Nat).Nodup by decide)) rfl) rfl) rfl) rfl) ?_
    exact (lp_98_1 hJ hov1 hov2 (d := d) (hb := hh5) (fun r9 h9 K9 => kk r9 h9 (xk_tr K6 K9 rfl)) 602) v4 u1 x1 hh5 (by omega) (xk_re K6.1) (by omega)
  · refine xi_iff (pc' := 4) kc_99_1 rfl (xc_lt_f (X := (x1.toInt + (-1))) (Y := 0) zv7 (by decide) (by omega)) ?_
    refine xi_iload_n (pc' := 5) (x := v7) kc_99_4 rfl rfl ?_
    refine xi_aload_n (pc' := 6) (x := 8) kc_99_5 rfl rfl ?_
    refine xi_getfield (pc' := 9) (v := .ref 10) kc_99_6 rfl rfl rfl A8 rfl ?_
    refine xcps4 (xk_arr K6.1 xD_10) (fun y10 A10 hy10 ry10 => ?_)
    refine xi_arraylength (pc' := 10) (n := 601) (v := 601) kc_99_9 rfl (xl_lenI (by decide) (by decide) A10 hy10) rfl ?_
    refine xi_cmt (pc' := 20) kc_99_10 rfl (xc_lt_t (X := (x1.toInt + (-1))) (Y := 601) zv7 (by decide) (by omega)) ?_
    refine xi_aload_n (pc' := 21) (x := 8) kc_99_20 rfl rfl ?_
    refine xi_getfield (pc' := 24) (v := .ref 10) kc_99_21 rfl rfl rfl A8 rfl ?_
    refine xi_iload_n (pc' := 25) (x := v7) kc_99_24 rfl rfl ?_
    refine xcps4 (xj_get hy10 ry10 (i := v7) (by rw [zv7]; omega) (by rw [zv7]; omega)) (fun v11 ev11 bv11 dv11 => ?_)
    refine xi_iaload (pc' := 26) (v := v11) kc_99_25 rfl A10 (by decide) rfl (xi_in (by rw [zv7]; omega) (by rw [hy10]; rw [zv7]; omega)) ev11 ?_
    refine xi_ireturn kc_99_26 mr_99 rfl ?_
    show xw J ov (d + 1) 98 (37, [(3, .int v4), (0, .ref 8), (1, .int x1), (2, .int x2)], [.int v11], hh5) _
    refine xi_istore (pc' := 39) (lv' := [(4, .int v11), (3, .int v4), (0, .ref 8), (1, .int x1), (2, .int x2)]) kc_98_37 rfl rfl (xm_lt ml_98 rfl) ?_
    refine xi_iload_n (pc' := 40) (x := x1) kc_98_39 rfl rfl ?_
    refine xi_istore (pc' := 42) (lv' := [(5, .int x1), (4, .int v11), (3, .int v4), (0, .ref 8), (1, .int x1), (2, .int x2)]) kc_98_40 rfl rfl (xm_lt ml_98 rfl) ?_
    refine xw_lv (b := [(0, .ref 8), (3, .int v4), (4, .int v11), (5, .int x1)]) (lvS_cons (lvS_cons (lvS_cons (lvS_cons (lvS_nil (show ([5, 4, 3, 0, 1, 2] : List Nat).Nodup by decide)) rfl) rfl) rfl) rfl) ?_
    exact (lp_98_1 hJ hov1 hov2 (d := d) (hb := hh5) (fun r9 h9 K9 => kk r9 h9 (xk_tr K6 K9 rfl)) 602) v4 v11 x1 hh5 (by omega) (xk_re K6.1) (by omega)
set_option maxHeartbeats 4000000 in
theorem mt_95_0 {J : xe_J} {ov : List (List Int32)} (hJ : ∀ d mj as h, mj ≠ xe_loff → J d mj as h = none) (hov1 : ov[1]? = some [10, 0, 0, 0, 0, 0]) (hov2 : ov[2]? = some [99, 30, 50, 50, 1, 99999]) {d : Nat} {Q : Option Value → xe_H → Prop} {h : xe_H} {x1 : Int32} {x2 : Int32} {x3 : Int32} (T : xt h) (kk : (∀ (r : Int32) (h' : xe_H), xk [(0, 9), (115, 1), (83, 0), (85, 8), (115, 56)] h h' → Q (some (.int r)) h')) : xw J ov (d + 2) 95 (0, [(0, .ref 0), (1, .int x1), (2, .int x2), (3, .int x3)], [], h) Q := by
  have K : xk [(0, 9), (115, 1), (83, 0), (85, 8), (115, 56)] h h := xk_re T
  have rx1 := xc_rng x1
  have rx2 := xc_rng x2
  have rx3 := xc_rng x3
  refine xi_iload_n (pc' := 1) (x := x2) kc_95_0 rfl rfl ?_
  by_cases c1 : x2.toInt = 0
  · refine xi_ift (pc' := 16) kc_95_1 rfl (xc_eq_t (X := x2.toInt) (Y := 0) rfl (by decide) (by omega)) ?_
    refine xi_iload_n (pc' := 17) (x := x2) kc_95_16 rfl rfl ?_
    refine xi_iff (pc' := 20) kc_95_17 rfl (xc_ne_f (X := x2.toInt) (Y := 0) rfl (by decide) (by omega)) ?_
    refine xi_bipush (pc' := 22) (v := (-20)) kc_95_20 rfl rfl ?_
    refine xi_goto (pc' := 26) kc_95_22 rfl ?_
    refine xi_istore (pc' := 28) (lv' := [(4, .int (-20)), (0, .ref 0), (1, .int x1), (2, .int x2), (3, .int x3)]) kc_95_26 rfl rfl (xm_lt ml_95 rfl) ?_
    refine xi_iload_n (pc' := 29) (x := x2) kc_95_28 rfl rfl ?_
    refine xi_iff (pc' := 32) kc_95_29 rfl (xc_ne_f (X := x2.toInt) (Y := 0) rfl (by decide) (by omega)) ?_
    refine xi_bipush (pc' := 34) (v := 30) kc_95_32 rfl rfl ?_
    refine xi_goto (pc' := 39) kc_95_34 rfl ?_
    refine xi_istore (pc' := 41) (lv' := [(5, .int 30), (4, .int (-20)), (0, .ref 0), (1, .int x1), (2, .int x2), (3, .int x3)]) kc_95_39 rfl rfl (xm_lt ml_95 rfl) ?_
    refine xi_iload_n (pc' := 42) (x := x1) kc_95_41 rfl rfl ?_
    by_cases c2 : x1.toInt < 0
    · refine xi_ift (pc' := 51) kc_95_42 rfl (xc_lt_t (X := x1.toInt) (Y := 0) rfl (by decide) (by omega)) ?_
      refine xi_aload_n (pc' := 52) (x := 0) kc_95_51 rfl rfl ?_
      refine xi_bipush (pc' := 54) (v := (-4)) kc_95_52 rfl rfl ?_
      refine xp_0 K.1 (fun u3 u4 bu3 bu4 A5 => ?_)
      refine xi_virtual (mj := 96) (as := [.int (-4)]) (st1 := []) (lv0 := [(0, .ref 0), (1, .int (-4))]) kc_95_54 rfl rfl rfl rfl rfl A5 (Nat.le_of_ble_eq_true rfl) (hJ _ _ _ _ (by decide)) (xm_le ml_96 rfl) rfl ?_
      refine xi_ldc_w (pc' := 3) (v := 1000000000) kc_96_0 rfl rfl ?_
      refine xi_aload_n (pc' := 4) (x := 0) kc_96_3 rfl rfl ?_
      refine xi_iload_n (pc' := 5) (x := (-4)) kc_96_4 rfl rfl ?_
      refine xi_virtual (mj := 90) (as := [.int (-4)]) (st1 := [.int 1000000000]) (lv0 := [(0, .ref 0), (1, .int (-4))]) kc_96_5 rfl rfl rfl rfl rfl A5 (Nat.le_of_ble_eq_true rfl) (hJ _ _ _ _ (by decide)) (xm_le ml_90 rfl) rfl ?_
      refine xi_iload_n (pc' := 1) (x := (-4)) kc_90_0 rfl rfl ?_
      refine xi_ineg (pc' := 2) (v := 4) kc_90_1 rfl rfl ?_
      refine xi_istore_n (pc' := 3) (lv' := [(2, .int 4), (0, .ref 0), (1, .int (-4))]) kc_90_2 rfl rfl (xm_lt ml_90 rfl) ?_
      refine xi_iload_n (pc' := 4) (x := 4) kc_90_3 rfl rfl ?_
      refine xi_iff (pc' := 7) kc_90_4 rfl rfl ?_
      refine xi_iload_n (pc' := 8) (x := 4) kc_90_7 rfl rfl ?_
      refine xi_aload_n (pc' := 9) (x := 0) kc_90_8 rfl rfl ?_
      refine xi_getfield (pc' := 12) (v := .ref 94) kc_90_9 rfl rfl rfl A5 rfl ?_
      refine xcps4 (xk_arr K.1 xD_94) (fun y6 A6 hy6 ry6 => ?_)
      refine xi_arraylength (pc' := 13) (n := 7) (v := 7) kc_90_12 rfl (xl_lenI (by decide) (by decide) A6 hy6) rfl ?_
      refine xi_cmf (pc' := 16) kc_90_13 rfl rfl ?_
      refine xi_aload_n (pc' := 17) (x := 0) kc_90_16 rfl rfl ?_
      refine xi_getfield (pc' := 20) (v := .ref 94) kc_90_17 rfl rfl rfl A5 rfl ?_
      refine xi_iload_n (pc' := 21) (x := 4) kc_90_20 rfl rfl ?_
      refine xi_dup2 (pc' := 22) kc_90_21 rfl ⟨rfl, rfl⟩ ?_
      refine xcps4 (xj_get hy6 ry6 (i := 4) (by decide) (by decide)) (fun v7 ev7 bv7 dv7 => ?_)
      refine xi_iaload (pc' := 23) (v := v7) kc_90_22 rfl A6 (by decide) rfl (xi_in (by decide) (by rw [hy6]; decide)) ev7 ?_
      refine xi_iconst (pc' := 24) (v := 1) kc_90_23 rfl rfl ?_
      refine xcps2 (α := Int32) ((v7 : Int32) + 1) (fun v8 ev8 => ?_)
      have rv8 := xc_rng v8
      refine xi_iadd (pc' := 25) (v := v8) kc_90_24 rfl ev8 ?_
      refine xcps4 (xj_set (v := v8) hy6 ry6 4 (by first | omega | decide) (by first | omega | decide)) (fun y9 s9 hy9 ry9 => ?_)
      refine xi_iastore (pc' := 26) (x' := y9) kc_90_25 rfl A6 rfl (xi_in (by decide) (by rw [hy6]; decide)) s9 (fun hh9 eh9 => ?_)
      have K10 := xk_pa K (xk_wa rfl) xD_94 hy9 ry9 eh9
      refine xi_iload_n (pc' := 27) (x := (-4)) kc_90_26 rfl rfl ?_
      refine xi_ireturn kc_90_27 mr_90 rfl ?_
      show xw J ov (d + 1) 96 (8, [(0, .ref 0), (1, .int (-4))], [.int (-4), .int 1000000000], hh9) _
      refine xi_isub (pc' := 9) (v := 1000000004) kc_96_8 rfl rfl ?_
      refine xi_ireturn kc_96_9 mr_96 rfl ?_
      show xw J ov (d + 2) 95 (57, [(5, .int 30), (4, .int (-20)), (0, .ref 0), (1, .int x1), (2, .int x2), (3, .int x3)], [.int 1000000004], hh9) _
      refine xi_ireturn kc_95_57 mr_95 rfl ?_
      have zc1000000004 : (1000000004 : Int32).toInt = 1000000004 := by decide
      exact kk 1000000004 hh9 K10
    · refine xi_iff (pc' := 45) kc_95_42 rfl (xc_lt_f (X := x1.toInt) (Y := 0) rfl (by decide) (by omega)) ?_
      refine xi_iload_n (pc' := 46) (x := x3) kc_95_45 rfl rfl ?_
      refine xi_iload (pc' := 48) (x := (-20)) kc_95_46 rfl rfl ?_
      by_cases c11 : (-20) ≤ x3.toInt
      · refine xi_cmt (pc' := 58) kc_95_48 rfl (xc_ge_t (X := x3.toInt) (Y := (-20)) rfl (by decide) (by omega)) ?_
        refine xi_iload_n (pc' := 59) (x := x1) kc_95_58 rfl rfl ?_
        refine xi_sipush (pc' := 62) (v := 600) kc_95_59 rfl rfl ?_
        by_cases c12 : 600 ≤ x1.toInt
        · refine xi_cmt (pc' := 77) kc_95_62 rfl (xc_ge_t (X := x1.toInt) (Y := 600) rfl (by decide) (by omega)) ?_
          refine xi_aload_n (pc' := 78) (x := 0) kc_95_77 rfl rfl ?_
          refine xi_bipush (pc' := 80) (v := (-6)) kc_95_78 rfl rfl ?_
          refine xp_0 K.1 (fun u13 u14 bu13 bu14 A15 => ?_)
          refine xi_virtual (mj := 96) (as := [.int (-6)]) (st1 := []) (lv0 := [(0, .ref 0), (1, .int (-6))]) kc_95_80 rfl rfl rfl rfl rfl A15 (Nat.le_of_ble_eq_true rfl) (hJ _ _ _ _ (by decide)) (xm_le ml_96 rfl) rfl ?_
          refine xi_ldc_w (pc' := 3) (v := 1000000000) kc_96_0 rfl rfl ?_
          refine xi_aload_n (pc' := 4) (x := 0) kc_96_3 rfl rfl ?_
          refine xi_iload_n (pc' := 5) (x := (-6)) kc_96_4 rfl rfl ?_
          refine xi_virtual (mj := 90) (as := [.int (-6)]) (st1 := [.int 1000000000]) (lv0 := [(0, .ref 0), (1, .int (-6))]) kc_96_5 rfl rfl rfl rfl rfl A15 (Nat.le_of_ble_eq_true rfl) (hJ _ _ _ _ (by decide)) (xm_le ml_90 rfl) rfl ?_
          refine xi_iload_n (pc' := 1) (x := (-6)) kc_90_0 rfl rfl ?_
          refine xi_ineg (pc' := 2) (v := 6) kc_90_1 rfl rfl ?_
          refine xi_istore_n (pc' := 3) (lv' := [(2, .int 6), (0, .ref 0), (1, .int (-6))]) kc_90_2 rfl rfl (xm_lt ml_90 rfl) ?_
          refine xi_iload_n (pc' := 4) (x := 6) kc_90_3 rfl rfl ?_
          refine xi_iff (pc' := 7) kc_90_4 rfl rfl ?_
          refine xi_iload_n (pc' := 8) (x := 6) kc_90_7 rfl rfl ?_
          refine xi_aload_n (pc' := 9) (x := 0) kc_90_8 rfl rfl ?_
          refine xi_getfield (pc' := 12) (v := .ref 94) kc_90_9 rfl rfl rfl A15 rfl ?_
          refine xcps4 (xk_arr K.1 xD_94) (fun y16 A16 hy16 ry16 => ?_)
          refine xi_arraylength (pc' := 13) (n := 7) (v := 7) kc_90_12 rfl (xl_lenI (by decide) (by decide) A16 hy16) rfl ?_
          refine xi_cmf (pc' := 16) kc_90_13 rfl rfl ?_
          refine xi_aload_n (pc' := 17) (x := 0) kc_90_16 rfl rfl ?_
          refine xi_getfield (pc' := 20) (v := .ref 94) kc_90_17 rfl rfl rfl A15 rfl ?_
          refine xi_iload_n (pc' := 21) (x := 6) kc_90_20 rfl rfl ?_
          refine xi_dup2 (pc' := 22) kc_90_21 rfl ⟨rfl, rfl⟩ ?_
          refine xcps4 (xj_get hy16 ry16 (i := 6) (by decide) (by decide)) (fun v17 ev17 bv17 dv17 => ?_)
          refine xi_iaload (pc' := 23) (v := v17) kc_90_22 rfl A16 (by decide) rfl (xi_in (by decide) (by rw [hy16]; decide)) ev17 ?_
          refine xi_iconst (pc' := 24) (v := 1) kc_90_23 rfl rfl ?_
          refine xcps2 (α := Int32) ((v17 : Int32) + 1) (fun v18 ev18 => ?_)
          have rv18 := xc_rng v18
          refine xi_iadd (pc' := 25) (v := v18) kc_90_24 rfl ev18 ?_
          refine xcps4 (xj_set (v := v18) hy16 ry16 6 (by first | omega | decide) (by first | omega | decide)) (fun y19 s19 hy19 ry19 => ?_)
          refine xi_iastore (pc' := 26) (x' := y19) kc_90_25 rfl A16 rfl (xi_in (by decide) (by rw [hy16]; decide)) s19 (fun hh19 eh19 => ?_)
          have K20 := xk_pa K (xk_wa rfl) xD_94 hy19 ry19 eh19
          refine xi_iload_n (pc' := 27) (x := (-6)) kc_90_26 rfl rfl ?_
          refine xi_ireturn kc_90_27 mr_90 rfl ?_
          show xw J ov (d + 1) 96 (8, [(0, .ref 0), (1, .int (-6))], [.int (-6), .int 1000000000], hh19) _
          refine xi_isub (pc' := 9) (v := 1000000006) kc_96_8 rfl rfl ?_
          refine xi_ireturn kc_96_9 mr_96 rfl ?_
          show xw J ov (d + 2) 95 (83, [(5, .int 30), (4, .int (-20)), (0, .ref 0), (1, .int x1), (2, .int x2), (3, .int x3)], [.int 1000000006], hh19) _
          refine xi_ireturn kc_95_83 mr_95 rfl ?_
          have zc1000000006 : (1000000006 : Int32).toInt = 1000000006 := by decide
          exact kk 1000000006 hh19 K20
        · refine xi_cmf (pc' := 65) kc_95_62 rfl (xc_ge_f (X := x1.toInt) (Y := 600) rfl (by decide) (by omega)) ?_
          refine xi_iload_n (pc' := 66) (x := x3) kc_95_65 rfl rfl ?_
          refine xi_iload (pc' := 68) (x := 30) kc_95_66 rfl rfl ?_
          by_cases c21 : x3.toInt ≤ 30
          · refine xi_cmt (pc' := 84) kc_95_68 rfl (xc_le_t (X := x3.toInt) (Y := 30) rfl (by decide) (by omega)) ?_
            refine xi_aload_n (pc' := 85) (x := 0) kc_95_84 rfl rfl ?_
            refine xp_0 K.1 (fun u22 u23 bu22 bu23 A24 => ?_)
            refine xi_getfield (pc' := 88) (v := .ref 66) kc_95_85 rfl rfl rfl A24 rfl ?_
            refine xp_66 K.1 (fun u26 wl25 bu26 A27 => ?_)
            refine xi_virtual (mj := 91) (as := []) (st1 := []) (lv0 := [(0, .ref 66)]) kc_95_88 rfl rfl rfl rfl rfl A27 (Nat.le_of_ble_eq_true rfl) (hJ _ _ _ _ (by decide)) (xm_le ml_91 rfl) rfl ?_
            refine xi_aload_n (pc' := 1) (x := 66) kc_91_0 rfl rfl ?_
            refine xi_lconst (pc' := 2) (v := 0) kc_91_1 rfl rfl ?_
            refine xi_putfield (pc' := 5) (fs' := [.ref 1, .ref 67, .ref 70, .ref 71, .ref 72, .ref 73, .ref 74, .long 0, .int u26]) kc_91_2 rfl rfl rfl A27 rfl rfl rfl (Nat.le_of_ble_eq_true rfl) rfl (fun hh29 eh28 => ?_)
            have K30 := xk_pl (k := 7) (v := 0) K (xk_wf rfl) xD_66 A27 rfl eh28 rfl
            refine xi_return kc_91_5 mr_91 ?_
            show xw J ov (d + 2) 95 (91, [(5, .int 30), (4, .int (-20)), (0, .ref 0), (1, .int x1), (2, .int x2), (3, .int x3)], [], hh29) _
            refine xi_aload_n (pc' := 92) (x := 0) kc_95_91 rfl rfl ?_
            have A31 := ((eh28.2.1 0 (by decide)).trans A24)
            refine xi_getfield (pc' := 95) (v := .ref 1) kc_95_92 rfl rfl rfl A31 rfl ?_
            refine xi_iload_n (pc' := 96) (x := x2) kc_95_95 rfl rfl ?_
            refine xp_1 K30.1 (fun u32 u33 bu32 bu33 A34 => ?_)
            refine xi_virtual (mj := 97) (as := [.int x2]) (st1 := []) (lv0 := [(0, .ref 1), (1, .int x2)]) kc_95_96 rfl rfl rfl rfl rfl A34 (Nat.le_of_ble_eq_true rfl) (hJ _ _ _ _ (by decide)) (xm_le ml_97 rfl) rfl ?_
            refine xi_iload_n (pc' := 1) (x := x2) kc_97_0 rfl rfl ?_
            refine xi_iff (pc' := 4) kc_97_1 rfl (xc_ne_f (X := x2.toInt) (Y := 0) rfl (by decide) (by omega)) ?_
            refine xi_aload_n (pc' := 5) (x := 1) kc_97_4 rfl rfl ?_
            refine xi_getfield (pc' := 8) (v := .ref 5) kc_97_5 rfl rfl rfl A34 rfl ?_
            refine xi_goto (pc' := 15) kc_97_8 rfl ?_
            refine xi_areturn kc_97_15 (by rw [mr_97]; rfl) ?_
            show xw J ov (d + 2) 95 (99, [(5, .int 30), (4, .int (-20)), (0, .ref 0), (1, .int x1), (2, .int x2), (3, .int x3)], [.ref 5], hh29) _
            refine xi_iload_n (pc' := 100) (x := x1) kc_95_99 rfl rfl ?_
            refine xi_iload_n (pc' := 101) (x := x3) kc_95_100 rfl rfl ?_
            refine xp_5 K30.1 (fun u35 bu35 A36 => ?_)
            refine xi_virtual (mj := 98) (as := [.int x1, .int x3]) (st1 := []) (lv0 := [(0, .ref 5), (1, .int x1), (2, .int x3)]) kc_95_101 rfl rfl rfl rfl rfl A36 (Nat.le_of_ble_eq_true rfl) (hJ _ _ _ _ (by decide)) (xm_le ml_98 rfl) rfl ?_
            refine mt_98_0 hJ hov1 hov2 (d := d) (x1 := x1) (x2 := x3) K30.1 (by first | omega | decide) (by first | omega | decide) (fun r37 hh38 K39 => ?_)
            have br37 := xc_rng r37
            have K40 := xk_tr K30 K39 rfl
            refine xp_0 K40.1 (fun u41 u42 bu41 bu42 A43 => ?_)
            have e44 : u23 = u42 := xk_eqi (q := 9) K39 rfl A31 A43 rfl rfl
            subst e44
            show xw J ov (d + 2) 95 (104, [(5, .int 30), (4, .int (-20)), (0, .ref 0), (1, .int x1), (2, .int x2), (3, .int x3)], [.int r37], hh38) _
            refine xi_ireturn kc_95_104 mr_95 rfl ?_
            exact kk r37 hh38 K40
          · refine xi_cmf (pc' := 71) kc_95_68 rfl (xc_le_f (X := x3.toInt) (Y := 30) rfl (by decide) (by omega)) ?_
            refine xi_iload_n (pc' := 72) (x := x3) kc_95_71 rfl rfl ?_
            refine xi_bipush (pc' := 74) (v := 99) kc_95_72 rfl rfl ?_
            by_cases c45 : x3.toInt = 99
            · refine xi_cmt (pc' := 84) kc_95_74 rfl (xc_eq_t (X := x3.toInt) (Y := 99) rfl (by decide) (by omega)) ?_
              refine xi_aload_n (pc' := 85) (x := 0) kc_95_84 rfl rfl ?_
              refine xp_0 K.1 (fun u46 u47 bu46 bu47 A48 => ?_)
              refine xi_getfield (pc' := 88) (v := .ref 66) kc_95_85 rfl rfl rfl A48 rfl ?_
              refine xp_66 K.1 (fun u50 wl49 bu50 A51 => ?_)
              refine xi_virtual (mj := 91) (as := []) (st1 := []) (lv0 := [(0, .ref 66)]) kc_95_88 rfl rfl rfl rfl rfl A51 (Nat.le_of_ble_eq_true rfl) (hJ _ _ _ _ (by decide)) (xm_le ml_91 rfl) rfl ?_
              refine xi_aload_n (pc' := 1) (x := 66) kc_91_0 rfl rfl ?_
              refine xi_lconst (pc' := 2) (v := 0) kc_91_1 rfl rfl ?_
              refine xi_putfield (pc' := 5) (fs' := [.ref 1, .ref 67, .ref 70, .ref 71, .ref 72, .ref 73, .ref 74, .long 0, .int u50]) kc_91_2 rfl rfl rfl A51 rfl rfl rfl (Nat.le_of_ble_eq_true rfl) rfl (fun hh53 eh52 => ?_)
              have K54 := xk_pl (k := 7) (v := 0) K (xk_wf rfl) xD_66 A51 rfl eh52 rfl
              refine xi_return kc_91_5 mr_91 ?_
              show xw J ov (d + 2) 95 (91, [(5, .int 30), (4, .int (-20)), (0, .ref 0), (1, .int x1), (2, .int x2), (3, .int x3)], [], hh53) _
              refine xi_aload_n (pc' := 92) (x := 0) kc_95_91 rfl rfl ?_
              have A55 := ((eh52.2.1 0 (by decide)).trans A48)
              refine xi_getfield (pc' := 95) (v := .ref 1) kc_95_92 rfl rfl rfl A55 rfl ?_
              refine xi_iload_n (pc' := 96) (x := x2) kc_95_95 rfl rfl ?_
              refine xp_1 K54.1 (fun u56 u57 bu56 bu57 A58 => ?_)
              refine xi_virtual (mj := 97) (as := [.int x2]) (st1 := []) (lv0 := [(0, .ref 1), (1, .int x2)]) kc_95_96 rfl rfl rfl rfl rfl A58 (Nat.le_of_ble_eq_true rfl) (hJ _ _ _ _ (by decide)) (xm_le ml_97 rfl) rfl ?_
              refine xi_iload_n (pc' := 1) (x := x2) kc_97_0 rfl rfl ?_
              refine xi_iff (pc' := 4) kc_97_1 rfl (xc_ne_f (X := x2.toInt) (Y := 0) rfl (by decide) (by omega)) ?_
              refine xi_aload_n (pc' := 5) (x := 1) kc_97_4 rfl rfl ?_
              refine xi_getfield (pc' := 8) (v := .ref 5) kc_97_5 rfl rfl rfl A58 rfl ?_
              refine xi_goto (pc' := 15) kc_97_8 rfl ?_
              refine xi_areturn kc_97_15 (by rw [mr_97]; rfl) ?_
              show xw J ov (d + 2) 95 (99, [(5, .int 30), (4, .int (-20)), (0, .ref 0), (1, .int x1), (2, .int x2), (3, .int x3)], [.ref 5], hh53) _
              refine xi_iload_n (pc' := 100) (x := x1) kc_95_99 rfl rfl ?_
              refine xi_iload_n (pc' := 101) (x := x3) kc_95_100 rfl rfl ?_
              refine xp_5 K54.1 (fun u59 bu59 A60 => ?_)
              refine xi_virtual (mj := 98) (as := [.int x1, .int x3]) (st1 := []) (lv0 := [(0, .ref 5), (1, .int x1), (2, .int x3)]) kc_95_101 rfl rfl rfl rfl rfl A60 (Nat.le_of_ble_eq_true rfl) (hJ _ _ _ _ (by decide)) (xm_le ml_98 rfl) rfl ?_
              refine mt_98_0 hJ hov1 hov2 (d := d) (x1 := x1) (x2 := x3) K54.1 (by first | omega | decide) (by first | omega | decide) (fun r61 hh62 K63 => ?_)
              have br61 := xc_rng r61
              have K64 := xk_tr K54 K63 rfl
              refine xp_0 K64.1 (fun u65 u66 bu65 bu66 A67 => ?_)
              have e68 : u47 = u66 := xk_eqi (q := 9) K63 rfl A55 A67 rfl rfl
              subst e68
              show xw J ov (d + 2) 95 (104, [(5, .int 30), (4, .int (-20)), (0, .ref 0), (1, .int x1), (2, .int x2), (3, .int x3)], [.int r61], hh62) _
              refine xi_ireturn kc_95_104 mr_95 rfl ?_
              exact kk r61 hh62 K64
            · refine xi_cmf (pc' := 77) kc_95_74 rfl (xc_eq_f (X := x3.toInt) (Y := 99) rfl (by decide) (by omega)) ?_
              refine xi_aload_n (pc' := 78) (x := 0) kc_95_77 rfl rfl ?_
              refine xi_bipush (pc' := 80) (v := (-6)) kc_95_78 rfl rfl ?_
              refine xp_0 K.1 (fun u69 u70 bu69 bu70 A71 => ?_)
              refine xi_virtual (mj := 96) (as := [.int (-6)]) (st1 := []) (lv0 := [(0, .ref 0), (1, .int (-6))]) kc_95_80 rfl rfl rfl rfl rfl A71 (Nat.le_of_ble_eq_true rfl) (hJ _ _ _ _ (by decide)) (xm_le ml_96 rfl) rfl ?_
              refine xi_ldc_w (pc' := 3) (v := 1000000000) kc_96_0 rfl rfl ?_
              refine xi_aload_n (pc' := 4) (x := 0) kc_96_3 rfl rfl ?_
              refine xi_iload_n (pc' := 5) (x := (-6)) kc_96_4 rfl rfl ?_
              refine xi_virtual (mj := 90) (as := [.int (-6)]) (st1 := [.int 1000000000]) (lv0 := [(0, .ref 0), (1, .int (-6))]) kc_96_5 rfl rfl rfl rfl rfl A71 (Nat.le_of_ble_eq_true rfl) (hJ _ _ _ _ (by decide)) (xm_le ml_90 rfl) rfl ?_
              refine xi_iload_n (pc' := 1) (x := (-6)) kc_90_0 rfl rfl ?_
              refine xi_ineg (pc' := 2) (v := 6) kc_90_1 rfl rfl ?_
              refine xi_istore_n (pc' := 3) (lv' := [(2, .int 6), (0, .ref 0), (1, .int (-6))]) kc_90_2 rfl rfl (xm_lt ml_90 rfl) ?_
              refine xi_iload_n (pc' := 4) (x := 6) kc_90_3 rfl rfl ?_
              refine xi_iff (pc' := 7) kc_90_4 rfl rfl ?_
              refine xi_iload_n (pc' := 8) (x := 6) kc_90_7 rfl rfl ?_
              refine xi_aload_n (pc' := 9) (x := 0) kc_90_8 rfl rfl ?_
              refine xi_getfield (pc' := 12) (v := .ref 94) kc_90_9 rfl rfl rfl A71 rfl ?_
              refine xcps4 (xk_arr K.1 xD_94) (fun y72 A72 hy72 ry72 => ?_)
              refine xi_arraylength (pc' := 13) (n := 7) (v := 7) kc_90_12 rfl (xl_lenI (by decide) (by decide) A72 hy72) rfl ?_
              refine xi_cmf (pc' := 16) kc_90_13 rfl rfl ?_
              refine xi_aload_n (pc' := 17) (x := 0) kc_90_16 rfl rfl ?_
              refine xi_getfield (pc' := 20) (v := .ref 94) kc_90_17 rfl rfl rfl A71 rfl ?_
              refine xi_iload_n (pc' := 21) (x := 6) kc_90_20 rfl rfl ?_
              refine xi_dup2 (pc' := 22) kc_90_21 rfl ⟨rfl, rfl⟩ ?_
              refine xcps4 (xj_get hy72 ry72 (i := 6) (by decide) (by decide)) (fun v73 ev73 bv73 dv73 => ?_)
              refine xi_iaload (pc' := 23) (v := v73) kc_90_22 rfl A72 (by decide) rfl (xi_in (by decide) (by rw [hy72]; decide)) ev73 ?_
              refine xi_iconst (pc' := 24) (v := 1) kc_90_23 rfl rfl ?_
              refine xcps2 (α := Int32) ((v73 : Int32) + 1) (fun v74 ev74 => ?_)
              have rv74 := xc_rng v74
              refine xi_iadd (pc' := 25) (v := v74) kc_90_24 rfl ev74 ?_
              refine xcps4 (xj_set (v := v74) hy72 ry72 6 (by first | omega | decide) (by first | omega | decide)) (fun y75 s75 hy75 ry75 => ?_)
              refine xi_iastore (pc' := 26) (x' := y75) kc_90_25 rfl A72 rfl (xi_in (by decide) (by rw [hy72]; decide)) s75 (fun hh75 eh75 => ?_)
              have K76 := xk_pa K (xk_wa rfl) xD_94 hy75 ry75 eh75
              refine xi_iload_n (pc' := 27) (x := (-6)) kc_90_26 rfl rfl ?_
              refine xi_ireturn kc_90_27 mr_90 rfl ?_
              show xw J ov (d + 1) 96 (8, [(0, .ref 0), (1, .int (-6))], [.int (-6), .int 1000000000], hh75) _
              refine xi_isub (pc' := 9) (v := 1000000006) kc_96_8 rfl rfl ?_
              refine xi_ireturn kc_96_9 mr_96 rfl ?_
              show xw J ov (d + 2) 95 (83, [(5, .int 30), (4, .int (-20)), (0, .ref 0), (1, .int x1), (2, .int x2), (3, .int x3)], [.int 1000000006], hh75) _
              refine xi_ireturn kc_95_83 mr_95 rfl ?_
              have zc1000000006 : (1000000006 : Int32).toInt = 1000000006 := by decide
              exact kk 1000000006 hh75 K76
      · refine xi_cmf (pc' := 51) kc_95_48 rfl (xc_ge_f (X := x3.toInt) (Y := (-20)) rfl (by decide) (by omega)) ?_
        refine xi_aload_n (pc' := 52) (x := 0) kc_95_51 rfl rfl ?_
        refine xi_bipush (pc' := 54) (v := (-4)) kc_95_52 rfl rfl ?_
        refine xp_0 K.1 (fun u77 u78 bu77 bu78 A79 => ?_)
        refine xi_virtual (mj := 96) (as := [.int (-4)]) (st1 := []) (lv0 := [(0, .ref 0), (1, .int (-4))]) kc_95_54 rfl rfl rfl rfl rfl A79 (Nat.le_of_ble_eq_true rfl) (hJ _ _ _ _ (by decide)) (xm_le ml_96 rfl) rfl ?_
        refine xi_ldc_w (pc' := 3) (v := 1000000000) kc_96_0 rfl rfl ?_
        refine xi_aload_n (pc' := 4) (x := 0) kc_96_3 rfl rfl ?_
        refine xi_iload_n (pc' := 5) (x := (-4)) kc_96_4 rfl rfl ?_
        refine xi_virtual (mj := 90) (as := [.int (-4)]) (st1 := [.int 1000000000]) (lv0 := [(0, .ref 0), (1, .int (-4))]) kc_96_5 rfl rfl rfl rfl rfl A79 (Nat.le_of_ble_eq_true rfl) (hJ _ _ _ _ (by decide)) (xm_le ml_90 rfl) rfl ?_
        refine xi_iload_n (pc' := 1) (x := (-4)) kc_90_0 rfl rfl ?_
        refine xi_ineg (pc' := 2) (v := 4) kc_90_1 rfl rfl ?_
        refine xi_istore_n (pc' := 3) (lv' := [(2, .int 4), (0, .ref 0), (1, .int (-4))]) kc_90_2 rfl rfl (xm_lt ml_90 rfl) ?_
        refine xi_iload_n (pc' := 4) (x := 4) kc_90_3 rfl rfl ?_
        refine xi_iff (pc' := 7) kc_90_4 rfl rfl ?_
        refine xi_iload_n (pc' := 8) (x := 4) kc_90_7 rfl rfl ?_
        refine xi_aload_n (pc' := 9) (x := 0) kc_90_8 rfl rfl ?_
        refine xi_getfield (pc' := 12) (v := .ref 94) kc_90_9 rfl rfl rfl A79 rfl ?_
        refine xcps4 (xk_arr K.1 xD_94) (fun y80 A80 hy80 ry80 => ?_)
        refine xi_arraylength (pc' := 13) (n := 7) (v := 7) kc_90_12 rfl (xl_lenI (by decide) (by decide) A80 hy80) rfl ?_
        refine xi_cmf (pc' := 16) kc_90_13 rfl rfl ?_
        refine xi_aload_n (pc' := 17) (x := 0) kc_90_16 rfl rfl ?_
        refine xi_getfield (pc' := 20) (v := .ref 94) kc_90_17 rfl rfl rfl A79 rfl ?_
        refine xi_iload_n (pc' := 21) (x := 4) kc_90_20 rfl rfl ?_
        refine xi_dup2 (pc' := 22) kc_90_21 rfl ⟨rfl, rfl⟩ ?_
        refine xcps4 (xj_get hy80 ry80 (i := 4) (by decide) (by decide)) (fun v81 ev81 bv81 dv81 => ?_)
        refine xi_iaload (pc' := 23) (v := v81) kc_90_22 rfl A80 (by decide) rfl (xi_in (by decide) (by rw [hy80]; decide)) ev81 ?_
        refine xi_iconst (pc' := 24) (v := 1) kc_90_23 rfl rfl ?_
        refine xcps2 (α := Int32) ((v81 : Int32) + 1) (fun v82 ev82 => ?_)
        have rv82 := xc_rng v82
        refine xi_iadd (pc' := 25) (v := v82) kc_90_24 rfl ev82 ?_
        refine xcps4 (xj_set (v := v82) hy80 ry80 4 (by first | omega | decide) (by first | omega | decide)) (fun y83 s83 hy83 ry83 => ?_)
        refine xi_iastore (pc' := 26) (x' := y83) kc_90_25 rfl A80 rfl (xi_in (by decide) (by rw [hy80]; decide)) s83 (fun hh83 eh83 => ?_)
        have K84 := xk_pa K (xk_wa rfl) xD_94 hy83 ry83 eh83
        refine xi_iload_n (pc' := 27) (x := (-4)) kc_90_26 rfl rfl ?_
        refine xi_ireturn kc_90_27 mr_90 rfl ?_
        show xw J ov (d + 1) 96 (8, [(0, .ref 0), (1, .int (-4))], [.int (-4), .int 1000000000], hh83) _
        refine xi_isub (pc' := 9) (v := 1000000004) kc_96_8 rfl rfl ?_
        refine xi_ireturn kc_96_9 mr_96 rfl ?_
        show xw J ov (d + 2) 95 (57, [(5, .int 30), (4, .int (-20)), (0, .ref 0), (1, .int x1), (2, .int x2), (3, .int x3)], [.int 1000000004], hh83) _
        refine xi_ireturn kc_95_57 mr_95 rfl ?_
        have zc1000000004 : (1000000004 : Int32).toInt = 1000000004 := by decide
        exact kk 1000000004 hh83 K84
  · refine xi_iff (pc' := 4) kc_95_1 rfl (xc_eq_f (X := x2.toInt) (Y := 0) rfl (by decide) (by omega)) ?_
    refine xi_iload_n (pc' := 5) (x := x2) kc_95_4 rfl rfl ?_
    refine xi_iconst (pc' := 6) (v := 1) kc_95_5 rfl rfl ?_
    by_cases c85 : x2.toInt = 1
    · refine xi_cmt (pc' := 16) kc_95_6 rfl (xc_eq_t (X := x2.toInt) (Y := 1) rfl (by decide) (by omega)) ?_
      refine xi_iload_n (pc' := 17) (x := x2) kc_95_16 rfl rfl ?_
      refine xi_ift (pc' := 25) kc_95_17 rfl (xc_ne_t (X := x2.toInt) (Y := 0) rfl (by decide) (by omega)) ?_
      refine xi_iconst (pc' := 26) (v := 0) kc_95_25 rfl rfl ?_
      refine xi_istore (pc' := 28) (lv' := [(4, .int 0), (0, .ref 0), (1, .int x1), (2, .int x2), (3, .int x3)]) kc_95_26 rfl rfl (xm_lt ml_95 rfl) ?_
      refine xi_iload_n (pc' := 29) (x := x2) kc_95_28 rfl rfl ?_
      refine xi_ift (pc' := 37) kc_95_29 rfl (xc_ne_t (X := x2.toInt) (Y := 0) rfl (by decide) (by omega)) ?_
      refine xi_bipush (pc' := 39) (v := 20) kc_95_37 rfl rfl ?_
      refine xi_istore (pc' := 41) (lv' := [(5, .int 20), (4, .int 0), (0, .ref 0), (1, .int x1), (2, .int x2), (3, .int x3)]) kc_95_39 rfl rfl (xm_lt ml_95 rfl) ?_
      refine xi_iload_n (pc' := 42) (x := x1) kc_95_41 rfl rfl ?_
      by_cases c86 : x1.toInt < 0
      · refine xi_ift (pc' := 51) kc_95_42 rfl (xc_lt_t (X := x1.toInt) (Y := 0) rfl (by decide) (by omega)) ?_
        refine xi_aload_n (pc' := 52) (x := 0) kc_95_51 rfl rfl ?_
        refine xi_bipush (pc' := 54) (v := (-4)) kc_95_52 rfl rfl ?_
        refine xp_0 K.1 (fun u87 u88 bu87 bu88 A89 => ?_)
        refine xi_virtual (mj := 96) (as := [.int (-4)]) (st1 := []) (lv0 := [(0, .ref 0), (1, .int (-4))]) kc_95_54 rfl rfl rfl rfl rfl A89 (Nat.le_of_ble_eq_true rfl) (hJ _ _ _ _ (by decide)) (xm_le ml_96 rfl) rfl ?_
        refine xi_ldc_w (pc' := 3) (v := 1000000000) kc_96_0 rfl rfl ?_
        refine xi_aload_n (pc' := 4) (x := 0) kc_96_3 rfl rfl ?_
        refine xi_iload_n (pc' := 5) (x := (-4)) kc_96_4 rfl rfl ?_
        refine xi_virtual (mj := 90) (as := [.int (-4)]) (st1 := [.int 1000000000]) (lv0 := [(0, .ref 0), (1, .int (-4))]) kc_96_5 rfl rfl rfl rfl rfl A89 (Nat.le_of_ble_eq_true rfl) (hJ _ _ _ _ (by decide)) (xm_le ml_90 rfl) rfl ?_
        refine xi_iload_n (pc' := 1) (x := (-4)) kc_90_0 rfl rfl ?_
        refine xi_ineg (pc' := 2) (v := 4) kc_90_1 rfl rfl ?_
        refine xi_istore_n (pc' := 3) (lv' := [(2, .int 4), (0, .ref 0), (1, .int (-4))]) kc_90_2 rfl rfl (xm_lt ml_90 rfl) ?_
        refine xi_iload_n (pc' := 4) (x := 4) kc_90_3 rfl rfl ?_
        refine xi_iff (pc' := 7) kc_90_4 rfl rfl ?_
        refine xi_iload_n (pc' := 8) (x := 4) kc_90_7 rfl rfl ?_
        refine xi_aload_n (pc' := 9) (x := 0) kc_90_8 rfl rfl ?_
        refine xi_getfield (pc' := 12) (v := .ref 94) kc_90_9 rfl rfl rfl A89 rfl ?_
        refine xcps4 (xk_arr K.1 xD_94) (fun y90 A90 hy90 ry90 => ?_)
        refine xi_arraylength (pc' := 13) (n := 7) (v := 7) kc_90_12 rfl (xl_lenI (by decide) (by decide) A90 hy90) rfl ?_
        refine xi_cmf (pc' := 16) kc_90_13 rfl rfl ?_
        refine xi_aload_n (pc' := 17) (x := 0) kc_90_16 rfl rfl ?_
        refine xi_getfield (pc' := 20) (v := .ref 94) kc_90_17 rfl rfl rfl A89 rfl ?_
        refine xi_iload_n (pc' := 21) (x := 4) kc_90_20 rfl rfl ?_
        refine xi_dup2 (pc' := 22) kc_90_21 rfl ⟨rfl, rfl⟩ ?_
        refine xcps4 (xj_get hy90 ry90 (i := 4) (by decide) (by decide)) (fun v91 ev91 bv91 dv91 => ?_)
        refine xi_iaload (pc' := 23) (v := v91) kc_90_22 rfl A90 (by decide) rfl (xi_in (by decide) (by rw [hy90]; decide)) ev91 ?_
        refine xi_iconst (pc' := 24) (v := 1) kc_90_23 rfl rfl ?_
        refine xcps2 (α := Int32) ((v91 : Int32) + 1) (fun v92 ev92 => ?_)
        have rv92 := xc_rng v92
        refine xi_iadd (pc' := 25) (v := v92) kc_90_24 rfl ev92 ?_
        refine xcps4 (xj_set (v := v92) hy90 ry90 4 (by first | omega | decide) (by first | omega | decide)) (fun y93 s93 hy93 ry93 => ?_)
        refine xi_iastore (pc' := 26) (x' := y93) kc_90_25 rfl A90 rfl (xi_in (by decide) (by rw [hy90]; decide)) s93 (fun hh93 eh93 => ?_)
        have K94 := xk_pa K (xk_wa rfl) xD_94 hy93 ry93 eh93
        refine xi_iload_n (pc' := 27) (x := (-4)) kc_90_26 rfl rfl ?_
        refine xi_ireturn kc_90_27 mr_90 rfl ?_
        show xw J ov (d + 1) 96 (8, [(0, .ref 0), (1, .int (-4))], [.int (-4), .int 1000000000], hh93) _
        refine xi_isub (pc' := 9) (v := 1000000004) kc_96_8 rfl rfl ?_
        refine xi_ireturn kc_96_9 mr_96 rfl ?_
        show xw J ov (d + 2) 95 (57, [(5, .int 20), (4, .int 0), (0, .ref 0), (1, .int x1), (2, .int x2), (3, .int x3)], [.int 1000000004], hh93) _
        refine xi_ireturn kc_95_57 mr_95 rfl ?_
        have zc1000000004 : (1000000004 : Int32).toInt = 1000000004 := by decide
        exact kk 1000000004 hh93 K94
      · refine xi_iff (pc' := 45) kc_95_42 rfl (xc_lt_f (X := x1.toInt) (Y := 0) rfl (by decide) (by omega)) ?_
        refine xi_iload_n (pc' := 46) (x := x3) kc_95_45 rfl rfl ?_
        refine xi_iload (pc' := 48) (x := 0) kc_95_46 rfl rfl ?_
        by_cases c95 : 0 ≤ x3.toInt
        · refine xi_cmt (pc' := 58) kc_95_48 rfl (xc_ge_t (X := x3.toInt) (Y := 0) rfl (by decide) (by omega)) ?_
          refine xi_iload_n (pc' := 59) (x := x1) kc_95_58 rfl rfl ?_
          refine xi_sipush (pc' := 62) (v := 600) kc_95_59 rfl rfl ?_
          by_cases c96 : 600 ≤ x1.toInt
          · refine xi_cmt (pc' := 77) kc_95_62 rfl (xc_ge_t (X := x1.toInt) (Y := 600) rfl (by decide) (by omega)) ?_
            refine xi_aload_n (pc' := 78) (x := 0) kc_95_77 rfl rfl ?_
            refine xi_bipush (pc' := 80) (v := (-6)) kc_95_78 rfl rfl ?_
            refine xp_0 K.1 (fun u97 u98 bu97 bu98 A99 => ?_)
            refine xi_virtual (mj := 96) (as := [.int (-6)]) (st1 := []) (lv0 := [(0, .ref 0), (1, .int (-6))]) kc_95_80 rfl rfl rfl rfl rfl A99 (Nat.le_of_ble_eq_true rfl) (hJ _ _ _ _ (by decide)) (xm_le ml_96 rfl) rfl ?_
            refine xi_ldc_w (pc' := 3) (v := 1000000000) kc_96_0 rfl rfl ?_
            refine xi_aload_n (pc' := 4) (x := 0) kc_96_3 rfl rfl ?_
            refine xi_iload_n (pc' := 5) (x := (-6)) kc_96_4 rfl rfl ?_
            refine xi_virtual (mj := 90) (as := [.int (-6)]) (st1 := [.int 1000000000]) (lv0 := [(0, .ref 0), (1, .int (-6))]) kc_96_5 rfl rfl rfl rfl rfl A99 (Nat.le_of_ble_eq_true rfl) (hJ _ _ _ _ (by decide)) (xm_le ml_90 rfl) rfl ?_
            refine xi_iload_n (pc' := 1) (x := (-6)) kc_90_0 rfl rfl ?_
            refine xi_ineg (pc' := 2) (v := 6) kc_90_1 rfl rfl ?_
            refine xi_istore_n (pc' := 3) (lv' := [(2, .int 6), (0, .ref 0), (1, .int (-6))]) kc_90_2 rfl rfl (xm_lt ml_90 rfl) ?_
            refine xi_iload_n (pc' := 4) (x := 6) kc_90_3 rfl rfl ?_
            refine xi_iff (pc' := 7) kc_90_4 rfl rfl ?_
            refine xi_iload_n (pc' := 8) (x := 6) kc_90_7 rfl rfl ?_
            refine xi_aload_n (pc' := 9) (x := 0) kc_90_8 rfl rfl ?_
            refine xi_getfield (pc' := 12) (v := .ref 94) kc_90_9 rfl rfl rfl A99 rfl ?_
            refine xcps4 (xk_arr K.1 xD_94) (fun y100 A100 hy100 ry100 => ?_)
            refine xi_arraylength (pc' := 13) (n := 7) (v := 7) kc_90_12 rfl (xl_lenI (by decide) (by decide) A100 hy100) rfl ?_
            refine xi_cmf (pc' := 16) kc_90_13 rfl rfl ?_
            refine xi_aload_n (pc' := 17) (x := 0) kc_90_16 rfl rfl ?_
            refine xi_getfield (pc' := 20) (v := .ref 94) kc_90_17 rfl rfl rfl A99 rfl ?_
            refine xi_iload_n (pc' := 21) (x := 6) kc_90_20 rfl rfl ?_
            refine xi_dup2 (pc' := 22) kc_90_21 rfl ⟨rfl, rfl⟩ ?_
            refine xcps4 (xj_get hy100 ry100 (i := 6) (by decide) (by decide)) (fun v101 ev101 bv101 dv101 => ?_)
            refine xi_iaload (pc' := 23) (v := v101) kc_90_22 rfl A100 (by decide) rfl (xi_in (by decide) (by rw [hy100]; decide)) ev101 ?_
            refine xi_iconst (pc' := 24) (v := 1) kc_90_23 rfl rfl ?_
            refine xcps2 (α := Int32) ((v101 : Int32) + 1) (fun v102 ev102 => ?_)
            have rv102 := xc_rng v102
            refine xi_iadd (pc' := 25) (v := v102) kc_90_24 rfl ev102 ?_
            refine xcps4 (xj_set (v := v102) hy100 ry100 6 (by first | omega | decide) (by first | omega | decide)) (fun y103 s103 hy103 ry103 => ?_)
            refine xi_iastore (pc' := 26) (x' := y103) kc_90_25 rfl A100 rfl (xi_in (by decide) (by rw [hy100]; decide)) s103 (fun hh103 eh103 => ?_)
            have K104 := xk_pa K (xk_wa rfl) xD_94 hy103 ry103 eh103
            refine xi_iload_n (pc' := 27) (x := (-6)) kc_90_26 rfl rfl ?_
            refine xi_ireturn kc_90_27 mr_90 rfl ?_
            show xw J ov (d + 1) 96 (8, [(0, .ref 0), (1, .int (-6))], [.int (-6), .int 1000000000], hh103) _
            refine xi_isub (pc' := 9) (v := 1000000006) kc_96_8 rfl rfl ?_
            refine xi_ireturn kc_96_9 mr_96 rfl ?_
            show xw J ov (d + 2) 95 (83, [(5, .int 20), (4, .int 0), (0, .ref 0), (1, .int x1), (2, .int x2), (3, .int x3)], [.int 1000000006], hh103) _
            refine xi_ireturn kc_95_83 mr_95 rfl ?_
            have zc1000000006 : (1000000006 : Int32).toInt = 1000000006 := by decide
            exact kk 1000000006 hh103 K104
          · refine xi_cmf (pc' := 65) kc_95_62 rfl (xc_ge_f (X := x1.toInt) (Y := 600) rfl (by decide) (by omega)) ?_
            refine xi_iload_n (pc' := 66) (x := x3) kc_95_65 rfl rfl ?_
            refine xi_iload (pc' := 68) (x := 20) kc_95_66 rfl rfl ?_
            by_cases c105 : x3.toInt ≤ 20
            · refine xi_cmt (pc' := 84) kc_95_68 rfl (xc_le_t (X := x3.toInt) (Y := 20) rfl (by decide) (by omega)) ?_
              refine xi_aload_n (pc' := 85) (x := 0) kc_95_84 rfl rfl ?_
              refine xp_0 K.1 (fun u106 u107 bu106 bu107 A108 => ?_)
              refine xi_getfield (pc' := 88) (v := .ref 66) kc_95_85 rfl rfl rfl A108 rfl ?_
              refine xp_66 K.1 (fun u110 wl109 bu110 A111 => ?_)
              refine xi_virtual (mj := 91) (as := []) (st1 := []) (lv0 := [(0, .ref 66)]) kc_95_88 rfl rfl rfl rfl rfl A111 (Nat.le_of_ble_eq_true rfl) (hJ _ _ _ _ (by decide)) (xm_le ml_91 rfl) rfl ?_
              refine xi_aload_n (pc' := 1) (x := 66) kc_91_0 rfl rfl ?_
              refine xi_lconst (pc' := 2) (v := 0) kc_91_1 rfl rfl ?_
              refine xi_putfield (pc' := 5) (fs' := [.ref 1, .ref 67, .ref 70, .ref 71, .ref 72, .ref 73, .ref 74, .long 0, .int u110]) kc_91_2 rfl rfl rfl A111 rfl rfl rfl (Nat.le_of_ble_eq_true rfl) rfl (fun hh113 eh112 => ?_)
              have K114 := xk_pl (k := 7) (v := 0) K (xk_wf rfl) xD_66 A111 rfl eh112 rfl
              refine xi_return kc_91_5 mr_91 ?_
              show xw J ov (d + 2) 95 (91, [(5, .int 20), (4, .int 0), (0, .ref 0), (1, .int x1), (2, .int x2), (3, .int x3)], [], hh113) _
              refine xi_aload_n (pc' := 92) (x := 0) kc_95_91 rfl rfl ?_
              have A115 := ((eh112.2.1 0 (by decide)).trans A108)
              refine xi_getfield (pc' := 95) (v := .ref 1) kc_95_92 rfl rfl rfl A115 rfl ?_
              refine xi_iload_n (pc' := 96) (x := x2) kc_95_95 rfl rfl ?_
              refine xp_1 K114.1 (fun u116 u117 bu116 bu117 A118 => ?_)
              refine xi_virtual (mj := 97) (as := [.int x2]) (st1 := []) (lv0 := [(0, .ref 1), (1, .int x2)]) kc_95_96 rfl rfl rfl rfl rfl A118 (Nat.le_of_ble_eq_true rfl) (hJ _ _ _ _ (by decide)) (xm_le ml_97 rfl) rfl ?_
              refine xi_iload_n (pc' := 1) (x := x2) kc_97_0 rfl rfl ?_
              refine xi_ift (pc' := 11) kc_97_1 rfl (xc_ne_t (X := x2.toInt) (Y := 0) rfl (by decide) (by omega)) ?_
              refine xi_aload_n (pc' := 12) (x := 1) kc_97_11 rfl rfl ?_
              refine xi_getfield (pc' := 15) (v := .ref 8) kc_97_12 rfl rfl rfl A118 rfl ?_
              refine xi_areturn kc_97_15 (by rw [mr_97]; rfl) ?_
              show xw J ov (d + 2) 95 (99, [(5, .int 20), (4, .int 0), (0, .ref 0), (1, .int x1), (2, .int x2), (3, .int x3)], [.ref 8], hh113) _
              refine xi_iload_n (pc' := 100) (x := x1) kc_95_99 rfl rfl ?_
              refine xi_iload_n (pc' := 101) (x := x3) kc_95_100 rfl rfl ?_
              refine xp_8 K114.1 (fun u119 bu119 A120 => ?_)
              refine xi_virtual (mj := 98) (as := [.int x1, .int x3]) (st1 := []) (lv0 := [(0, .ref 8), (1, .int x1), (2, .int x3)]) kc_95_101 rfl rfl rfl rfl rfl A120 (Nat.le_of_ble_eq_true rfl) (hJ _ _ _ _ (by decide)) (xm_le ml_98 rfl) rfl ?_
              refine mt_98_1 hJ hov1 hov2 (d := d) (x1 := x1) (x2 := x3) K114.1 (by first | omega | decide) (by first | omega | decide) (fun r121 hh122 K123 => ?_)
              have br121 := xc_rng r121
              have K124 := xk_tr K114 K123 rfl
              refine xp_0 K124.1 (fun u125 u126 bu125 bu126 A127 => ?_)
              have e128 : u107 = u126 := xk_eqi (q := 9) K123 rfl A115 A127 rfl rfl
              subst e128
              show xw J ov (d + 2) 95 (104, [(5, .int 20), (4, .int 0), (0, .ref 0), (1, .int x1), (2, .int x2), (3, .int x3)], [.int r121], hh122) _
              refine xi_ireturn kc_95_104 mr_95 rfl ?_
              exact kk r121 hh122 K124
            · refine xi_cmf (pc' := 71) kc_95_68 rfl (xc_le_f (X := x3.toInt) (Y := 20) rfl (by decide) (by omega)) ?_
              refine xi_iload_n (pc' := 72) (x := x3) kc_95_71 rfl rfl ?_
              refine xi_bipush (pc' := 74) (v := 99) kc_95_72 rfl rfl ?_
              by_cases c129 : x3.toInt = 99
              · refine xi_cmt (pc' := 84) kc_95_74 rfl (xc_eq_t (X := x3.toInt) (Y := 99) rfl (by decide) (by omega)) ?_
                refine xi_aload_n (pc' := 85) (x := 0) kc_95_84 rfl rfl ?_
                refine xp_0 K.1 (fun u130 u131 bu130 bu131 A132 => ?_)
                refine xi_getfield (pc' := 88) (v := .ref 66) kc_95_85 rfl rfl rfl A132 rfl ?_
                refine xp_66 K.1 (fun u134 wl133 bu134 A135 => ?_)
                refine xi_virtual (mj := 91) (as := []) (st1 := []) (lv0 := [(0, .ref 66)]) kc_95_88 rfl rfl rfl rfl rfl A135 (Nat.le_of_ble_eq_true rfl) (hJ _ _ _ _ (by decide)) (xm_le ml_91 rfl) rfl ?_
                refine xi_aload_n (pc' := 1) (x := 66) kc_91_0 rfl rfl ?_
                refine xi_lconst (pc' := 2) (v := 0) kc_91_1 rfl rfl ?_
                refine xi_putfield (pc' := 5) (fs' := [.ref 1, .ref 67, .ref 70, .ref 71, .ref 72, .ref 73, .ref 74, .long 0, .int u134]) kc_91_2 rfl rfl rfl A135 rfl rfl rfl (Nat.le_of_ble_eq_true rfl) rfl (fun hh137 eh136 => ?_)
                have K138 := xk_pl (k := 7) (v := 0) K (xk_wf rfl) xD_66 A135 rfl eh136 rfl
                refine xi_return kc_91_5 mr_91 ?_
                show xw J ov (d + 2) 95 (91, [(5, .int 20), (4, .int 0), (0, .ref 0), (1, .int x1), (2, .int x2), (3, .int x3)], [], hh137) _
                refine xi_aload_n (pc' := 92) (x := 0) kc_95_91 rfl rfl ?_
                have A139 := ((eh136.2.1 0 (by decide)).trans A132)
                refine xi_getfield (pc' := 95) (v := .ref 1) kc_95_92 rfl rfl rfl A139 rfl ?_
                refine xi_iload_n (pc' := 96) (x := x2) kc_95_95 rfl rfl ?_
                refine xp_1 K138.1 (fun u140 u141 bu140 bu141 A142 => ?_)
                refine xi_virtual (mj := 97) (as := [.int x2]) (st1 := []) (lv0 := [(0, .ref 1), (1, .int x2)]) kc_95_96 rfl rfl rfl rfl rfl A142 (Nat.le_of_ble_eq_true rfl) (hJ _ _ _ _ (by decide)) (xm_le ml_97 rfl) rfl ?_
                refine xi_iload_n (pc' := 1) (x := x2) kc_97_0 rfl rfl ?_
                refine xi_ift (pc' := 11) kc_97_1 rfl (xc_ne_t (X := x2.toInt) (Y := 0) rfl (by decide) (by omega)) ?_
                refine xi_aload_n (pc' := 12) (x := 1) kc_97_11 rfl rfl ?_
                refine xi_getfield (pc' := 15) (v := .ref 8) kc_97_12 rfl rfl rfl A142 rfl ?_
                refine xi_areturn kc_97_15 (by rw [mr_97]; rfl) ?_
                show xw J ov (d + 2) 95 (99, [(5, .int 20), (4, .int 0), (0, .ref 0), (1, .int x1), (2, .int x2), (3, .int x3)], [.ref 8], hh137) _
                refine xi_iload_n (pc' := 100) (x := x1) kc_95_99 rfl rfl ?_
                refine xi_iload_n (pc' := 101) (x := x3) kc_95_100 rfl rfl ?_
                refine xp_8 K138.1 (fun u143 bu143 A144 => ?_)
                refine xi_virtual (mj := 98) (as := [.int x1, .int x3]) (st1 := []) (lv0 := [(0, .ref 8), (1, .int x1), (2, .int x3)]) kc_95_101 rfl rfl rfl rfl rfl A144 (Nat.le_of_ble_eq_true rfl) (hJ _ _ _ _ (by decide)) (xm_le ml_98 rfl) rfl ?_
                refine mt_98_1 hJ hov1 hov2 (d := d) (x1 := x1) (x2 := x3) K138.1 (by first | omega | decide) (by first | omega | decide) (fun r145 hh146 K147 => ?_)
                have br145 := xc_rng r145
                have K148 := xk_tr K138 K147 rfl
                refine xp_0 K148.1 (fun u149 u150 bu149 bu150 A151 => ?_)
                have e152 : u131 = u150 := xk_eqi (q := 9) K147 rfl A139 A151 rfl rfl
                subst e152
                show xw J ov (d + 2) 95 (104, [(5, .int 20), (4, .int 0), (0, .ref 0), (1, .int x1), (2, .int x2), (3, .int x3)], [.int r145], hh146) _
                refine xi_ireturn kc_95_104 mr_95 rfl ?_
                exact kk r145 hh146 K148
              · refine xi_cmf (pc' := 77) kc_95_74 rfl (xc_eq_f (X := x3.toInt) (Y := 99) rfl (by decide) (by omega)) ?_
                refine xi_aload_n (pc' := 78) (x := 0) kc_95_77 rfl rfl ?_
                refine xi_bipush (pc' := 80) (v := (-6)) kc_95_78 rfl rfl ?_
                refine xp_0 K.1 (fun u153 u154 bu153 bu154 A155 => ?_)
                refine xi_virtual (mj := 96) (as := [.int (-6)]) (st1 := []) (lv0 := [(0, .ref 0), (1, .int (-6))]) kc_95_80 rfl rfl rfl rfl rfl A155 (Nat.le_of_ble_eq_true rfl) (hJ _ _ _ _ (by decide)) (xm_le ml_96 rfl) rfl ?_
                refine xi_ldc_w (pc' := 3) (v := 1000000000) kc_96_0 rfl rfl ?_
                refine xi_aload_n (pc' := 4) (x := 0) kc_96_3 rfl rfl ?_
                refine xi_iload_n (pc' := 5) (x := (-6)) kc_96_4 rfl rfl ?_
                refine xi_virtual (mj := 90) (as := [.int (-6)]) (st1 := [.int 1000000000]) (lv0 := [(0, .ref 0), (1, .int (-6))]) kc_96_5 rfl rfl rfl rfl rfl A155 (Nat.le_of_ble_eq_true rfl) (hJ _ _ _ _ (by decide)) (xm_le ml_90 rfl) rfl ?_
                refine xi_iload_n (pc' := 1) (x := (-6)) kc_90_0 rfl rfl ?_
                refine xi_ineg (pc' := 2) (v := 6) kc_90_1 rfl rfl ?_
                refine xi_istore_n (pc' := 3) (lv' := [(2, .int 6), (0, .ref 0), (1, .int (-6))]) kc_90_2 rfl rfl (xm_lt ml_90 rfl) ?_
                refine xi_iload_n (pc' := 4) (x := 6) kc_90_3 rfl rfl ?_
                refine xi_iff (pc' := 7) kc_90_4 rfl rfl ?_
                refine xi_iload_n (pc' := 8) (x := 6) kc_90_7 rfl rfl ?_
                refine xi_aload_n (pc' := 9) (x := 0) kc_90_8 rfl rfl ?_
                refine xi_getfield (pc' := 12) (v := .ref 94) kc_90_9 rfl rfl rfl A155 rfl ?_
                refine xcps4 (xk_arr K.1 xD_94) (fun y156 A156 hy156 ry156 => ?_)
                refine xi_arraylength (pc' := 13) (n := 7) (v := 7) kc_90_12 rfl (xl_lenI (by decide) (by decide) A156 hy156) rfl ?_
                refine xi_cmf (pc' := 16) kc_90_13 rfl rfl ?_
                refine xi_aload_n (pc' := 17) (x := 0) kc_90_16 rfl rfl ?_
                refine xi_getfield (pc' := 20) (v := .ref 94) kc_90_17 rfl rfl rfl A155 rfl ?_
                refine xi_iload_n (pc' := 21) (x := 6) kc_90_20 rfl rfl ?_
                refine xi_dup2 (pc' := 22) kc_90_21 rfl ⟨rfl, rfl⟩ ?_
                refine xcps4 (xj_get hy156 ry156 (i := 6) (by decide) (by decide)) (fun v157 ev157 bv157 dv157 => ?_)
                refine xi_iaload (pc' := 23) (v := v157) kc_90_22 rfl A156 (by decide) rfl (xi_in (by decide) (by rw [hy156]; decide)) ev157 ?_
                refine xi_iconst (pc' := 24) (v := 1) kc_90_23 rfl rfl ?_
                refine xcps2 (α := Int32) ((v157 : Int32) + 1) (fun v158 ev158 => ?_)
                have rv158 := xc_rng v158
                refine xi_iadd (pc' := 25) (v := v158) kc_90_24 rfl ev158 ?_
                refine xcps4 (xj_set (v := v158) hy156 ry156 6 (by first | omega | decide) (by first | omega | decide)) (fun y159 s159 hy159 ry159 => ?_)
                refine xi_iastore (pc' := 26) (x' := y159) kc_90_25 rfl A156 rfl (xi_in (by decide) (by rw [hy156]; decide)) s159 (fun hh159 eh159 => ?_)
                have K160 := xk_pa K (xk_wa rfl) xD_94 hy159 ry159 eh159
                refine xi_iload_n (pc' := 27) (x := (-6)) kc_90_26 rfl rfl ?_
                refine xi_ireturn kc_90_27 mr_90 rfl ?_
                show xw J ov (d + 1) 96 (8, [(0, .ref 0), (1, .int (-6))], [.int (-6), .int 1000000000], hh159) _
                refine xi_isub (pc' := 9) (v := 1000000006) kc_96_8 rfl rfl ?_
                refine xi_ireturn kc_96_9 mr_96 rfl ?_
                show xw J ov (d + 2) 95 (83, [(5, .int 20), (4, .int 0), (0, .ref 0), (1, .int x1), (2, .int x2), (3, .int x3)], [.int 1000000006], hh159) _
                refine xi_ireturn kc_95_83 mr_95 rfl ?_
                have zc1000000006 : (1000000006 : Int32).toInt = 1000000006 := by decide
                exact kk 1000000006 hh159 K160
        · refine xi_cmf (pc' := 51) kc_95_48 rfl (xc_ge_f (X := x3.toInt) (Y := 0) rfl (by decide) (by omega)) ?_
          refine xi_aload_n (pc' := 52) (x := 0) kc_95_51 rfl rfl ?_
          refine xi_bipush (pc' := 54) (v := (-4)) kc_95_52 rfl rfl ?_
          refine xp_0 K.1 (fun u161 u162 bu161 bu162 A163 => ?_)
          refine xi_virtual (mj := 96) (as := [.int (-4)]) (st1 := []) (lv0 := [(0, .ref 0), (1, .int (-4))]) kc_95_54 rfl rfl rfl rfl rfl A163 (Nat.le_of_ble_eq_true rfl) (hJ _ _ _ _ (by decide)) (xm_le ml_96 rfl) rfl ?_
          refine xi_ldc_w (pc' := 3) (v := 1000000000) kc_96_0 rfl rfl ?_
          refine xi_aload_n (pc' := 4) (x := 0) kc_96_3 rfl rfl ?_
          refine xi_iload_n (pc' := 5) (x := (-4)) kc_96_4 rfl rfl ?_
          refine xi_virtual (mj := 90) (as := [.int (-4)]) (st1 := [.int 1000000000]) (lv0 := [(0, .ref 0), (1, .int (-4))]) kc_96_5 rfl rfl rfl rfl rfl A163 (Nat.le_of_ble_eq_true rfl) (hJ _ _ _ _ (by decide)) (xm_le ml_90 rfl) rfl ?_
          refine xi_iload_n (pc' := 1) (x := (-4)) kc_90_0 rfl rfl ?_
          refine xi_ineg (pc' := 2) (v := 4) kc_90_1 rfl rfl ?_
          refine xi_istore_n (pc' := 3) (lv' := [(2, .int 4), (0, .ref 0), (1, .int (-4))]) kc_90_2 rfl rfl (xm_lt ml_90 rfl) ?_
          refine xi_iload_n (pc' := 4) (x := 4) kc_90_3 rfl rfl ?_
          refine xi_iff (pc' := 7) kc_90_4 rfl rfl ?_
          refine xi_iload_n (pc' := 8) (x := 4) kc_90_7 rfl rfl ?_
          refine xi_aload_n (pc' := 9) (x := 0) kc_90_8 rfl rfl ?_
          refine xi_getfield (pc' := 12) (v := .ref 94) kc_90_9 rfl rfl rfl A163 rfl ?_
          refine xcps4 (xk_arr K.1 xD_94) (fun y164 A164 hy164 ry164 => ?_)
          refine xi_arraylength (pc' := 13) (n := 7) (v := 7) kc_90_12 rfl (xl_lenI (by decide) (by decide) A164 hy164) rfl ?_
          refine xi_cmf (pc' := 16) kc_90_13 rfl rfl ?_
          refine xi_aload_n (pc' := 17) (x := 0) kc_90_16 rfl rfl ?_
          refine xi_getfield (pc' := 20) (v := .ref 94) kc_90_17 rfl rfl rfl A163 rfl ?_
          refine xi_iload_n (pc' := 21) (x := 4) kc_90_20 rfl rfl ?_
          refine xi_dup2 (pc' := 22) kc_90_21 rfl ⟨rfl, rfl⟩ ?_
          refine xcps4 (xj_get hy164 ry164 (i := 4) (by decide) (by decide)) (fun v165 ev165 bv165 dv165 => ?_)
          refine xi_iaload (pc' := 23) (v := v165) kc_90_22 rfl A164 (by decide) rfl (xi_in (by decide) (by rw [hy164]; decide)) ev165 ?_
          refine xi_iconst (pc' := 24) (v := 1) kc_90_23 rfl rfl ?_
          refine xcps2 (α := Int32) ((v165 : Int32) + 1) (fun v166 ev166 => ?_)
          have rv166 := xc_rng v166
          refine xi_iadd (pc' := 25) (v := v166) kc_90_24 rfl ev166 ?_
          refine xcps4 (xj_set (v := v166) hy164 ry164 4 (by first | omega | decide) (by first | omega | decide)) (fun y167 s167 hy167 ry167 => ?_)
          refine xi_iastore (pc' := 26) (x' := y167) kc_90_25 rfl A164 rfl (xi_in (by decide) (by rw [hy164]; decide)) s167 (fun hh167 eh167 => ?_)
          have K168 := xk_pa K (xk_wa rfl) xD_94 hy167 ry167 eh167
          refine xi_iload_n (pc' := 27) (x := (-4)) kc_90_26 rfl rfl ?_
          refine xi_ireturn kc_90_27 mr_90 rfl ?_
          show xw J ov (d + 1) 96 (8, [(0, .ref 0), (1, .int (-4))], [.int (-4), .int 1000000000], hh167) _
          refine xi_isub (pc' := 9) (v := 1000000004) kc_96_8 rfl rfl ?_
          refine xi_ireturn kc_96_9 mr_96 rfl ?_
          show xw J ov (d + 2) 95 (57, [(5, .int 20), (4, .int 0), (0, .ref 0), (1, .int x1), (2, .int x2), (3, .int x3)], [.int 1000000004], hh167) _
          refine xi_ireturn kc_95_57 mr_95 rfl ?_
          have zc1000000004 : (1000000004 : Int32).toInt = 1000000004 := by decide
          exact kk 1000000004 hh167 K168
    · refine xi_cmf (pc' := 9) kc_95_6 rfl (xc_eq_f (X := x2.toInt) (Y := 1) rfl (by decide) (by omega)) ?_
      refine xi_aload_n (pc' := 10) (x := 0) kc_95_9 rfl rfl ?_
      refine xi_bipush (pc' := 12) (v := (-2)) kc_95_10 rfl rfl ?_
      refine xp_0 K.1 (fun u169 u170 bu169 bu170 A171 => ?_)
      refine xi_virtual (mj := 96) (as := [.int (-2)]) (st1 := []) (lv0 := [(0, .ref 0), (1, .int (-2))]) kc_95_12 rfl rfl rfl rfl rfl A171 (Nat.le_of_ble_eq_true rfl) (hJ _ _ _ _ (by decide)) (xm_le ml_96 rfl) rfl ?_
      refine xi_ldc_w (pc' := 3) (v := 1000000000) kc_96_0 rfl rfl ?_
      refine xi_aload_n (pc' := 4) (x := 0) kc_96_3 rfl rfl ?_
      refine xi_iload_n (pc' := 5) (x := (-2)) kc_96_4 rfl rfl ?_
      refine xi_virtual (mj := 90) (as := [.int (-2)]) (st1 := [.int 1000000000]) (lv0 := [(0, .ref 0), (1, .int (-2))]) kc_96_5 rfl rfl rfl rfl rfl A171 (Nat.le_of_ble_eq_true rfl) (hJ _ _ _ _ (by decide)) (xm_le ml_90 rfl) rfl ?_
      refine xi_iload_n (pc' := 1) (x := (-2)) kc_90_0 rfl rfl ?_
      refine xi_ineg (pc' := 2) (v := 2) kc_90_1 rfl rfl ?_
      refine xi_istore_n (pc' := 3) (lv' := [(2, .int 2), (0, .ref 0), (1, .int (-2))]) kc_90_2 rfl rfl (xm_lt ml_90 rfl) ?_
      refine xi_iload_n (pc' := 4) (x := 2) kc_90_3 rfl rfl ?_
      refine xi_iff (pc' := 7) kc_90_4 rfl rfl ?_
      refine xi_iload_n (pc' := 8) (x := 2) kc_90_7 rfl rfl ?_
      refine xi_aload_n (pc' := 9) (x := 0) kc_90_8 rfl rfl ?_
      refine xi_getfield (pc' := 12) (v := .ref 94) kc_90_9 rfl rfl rfl A171 rfl ?_
      refine xcps4 (xk_arr K.1 xD_94) (fun y172 A172 hy172 ry172 => ?_)
      refine xi_arraylength (pc' := 13) (n := 7) (v := 7) kc_90_12 rfl (xl_lenI (by decide) (by decide) A172 hy172) rfl ?_
      refine xi_cmf (pc' := 16) kc_90_13 rfl rfl ?_
      refine xi_aload_n (pc' := 17) (x := 0) kc_90_16 rfl rfl ?_
      refine xi_getfield (pc' := 20) (v := .ref 94) kc_90_17 rfl rfl rfl A171 rfl ?_
      refine xi_iload_n (pc' := 21) (x := 2) kc_90_20 rfl rfl ?_
      refine xi_dup2 (pc' := 22) kc_90_21 rfl ⟨rfl, rfl⟩ ?_
      refine xcps4 (xj_get hy172 ry172 (i := 2) (by decide) (by decide)) (fun v173 ev173 bv173 dv173 => ?_)
      refine xi_iaload (pc' := 23) (v := v173) kc_90_22 rfl A172 (by decide) rfl (xi_in (by decide) (by rw [hy172]; decide)) ev173 ?_
      refine xi_iconst (pc' := 24) (v := 1) kc_90_23 rfl rfl ?_
      refine xcps2 (α := Int32) ((v173 : Int32) + 1) (fun v174 ev174 => ?_)
      have rv174 := xc_rng v174
      refine xi_iadd (pc' := 25) (v := v174) kc_90_24 rfl ev174 ?_
      refine xcps4 (xj_set (v := v174) hy172 ry172 2 (by first | omega | decide) (by first | omega | decide)) (fun y175 s175 hy175 ry175 => ?_)
      refine xi_iastore (pc' := 26) (x' := y175) kc_90_25 rfl A172 rfl (xi_in (by decide) (by rw [hy172]; decide)) s175 (fun hh175 eh175 => ?_)
      have K176 := xk_pa K (xk_wa rfl) xD_94 hy175 ry175 eh175
      refine xi_iload_n (pc' := 27) (x := (-2)) kc_90_26 rfl rfl ?_
      refine xi_ireturn kc_90_27 mr_90 rfl ?_
      show xw J ov (d + 1) 96 (8, [(0, .ref 0), (1, .int (-2))], [.int (-2), .int 1000000000], hh175) _
      refine xi_isub (pc' := 9) (v := 1000000002) kc_96_8 rfl rfl ?_
      refine xi_ireturn kc_96_9 mr_96 rfl ?_
      show xw J ov (d + 2) 95 (15, [(0, .ref 0), (1, .int x1), (2, .int x2), (3, .int x3)], [.int 1000000002], hh175) _
      refine xi_ireturn kc_95_15 mr_95 rfl ?_
      have zc1000000002 : (1000000002 : Int32).toInt = 1000000002 := by decide
      exact kk 1000000002 hh175 K176
