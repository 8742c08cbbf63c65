set_option maxHeartbeats 4000000 in
theorem mt_95_0 {J : xe_J} {ov : List (List Int32)} (hJ : ∀ d mj as h, mj ≠ xe_loff → J d mj as h = none) (hov1 : ov[1]? = some [10, 0, 0, 0, 0, 0]) (hov2 : ov[2]? = some [99, 30, 50, 50, 1, 99999]) {d : Nat} {Q : Option Value → xe_H → Prop} {h : xe_H} {x1 : Int32} {x2 : Int32} {x3 : Int32} (T : xt h) (kk : (∀ (r : Int32) (h' : xe_H), xk [(0, 9), (115, 1), (83, 0), (29, 0), (31, 0), (33, 0), (35, 0), (37, 0), (39, 0), (41, 0), (43, 0), (45, 0), (47, 0), (49, 0), (51, 0), (125, 0), (29, 2), (31, 2), (33, 2), (35, 2), (37, 2), (39, 2), (41, 2), (43, 2), (45, 2), (47, 2), (49, 2), (51, 2), (127, 0), (1, 5), (115, 23)] h h' → Q (some (.int r)) h')) : xw J ov (d + 2) 95 (0, [(0, .ref 0), (1, .int x1), (2, .int x2), (3, .int x3)], [], h) Q := by
  have K : xk [(0, 9), (115, 1), (83, 0), (29, 0), (31, 0), (33, 0), (35, 0), (37, 0), (39, 0), (41, 0), (43, 0), (45, 0), (47, 0), (49, 0), (51, 0), (125, 0), (29, 2), (31, 2), (33, 2), (35, 2), (37, 2), (39, 2), (41, 2), (43, 2), (45, 2), (47, 2), (49, 2), (51, 2), (127, 0), (1, 5), (115, 23)] h h := xk_re T
  have rx1 := xc_rng x1
  have rx2 := xc_rng x2
  have rx3 := xc_rng x3
  refine xi_iload_n (pc' := 1) (x := x2) kc_95_0 rfl rfl ?_
  by_cases c1 : x2.toInt = 0
  · refine xi_ift (pc' := 16) kc_95_1 rfl (xc_eq_t (X := x2.toInt) (Y := 0) rfl (by decide) (by omega)) ?_
    refine xi_iload_n (pc' := 17) (x := x2) kc_95_16 rfl rfl ?_
    refine xi_iff (pc' := 20) kc_95_17 rfl (xc_ne_f (X := x2.toInt) (Y := 0) rfl (by decide) (by omega)) ?_
    refine xi_bipush (pc' := 22) (v := (-20)) kc_95_20 rfl rfl ?_
    refine xi_goto (pc' := 26) kc_95_22 rfl ?_
    refine xi_istore (pc' := 28) (lv' := [(4, .int (-20)), (0, .ref 0), (1, .int x1), (2, .int x2), (3, .int x3)]) kc_95_26 rfl rfl (xm_lt ml_95 rfl) ?_
    refine xi_iload_n (pc' := 29) (x := x2) kc_95_28 rfl rfl ?_
    refine xi_iff (pc' := 32) kc_95_29 rfl (xc_ne_f (X := x2.toInt) (Y := 0) rfl (by decide) (by omega)) ?_
    refine xi_bipush (pc' := 34) (v := 30) kc_95_32 rfl rfl ?_
    refine xi_goto (pc' := 39) kc_95_34 rfl ?_
    refine xi_istore (pc' := 41) (lv' := [(5, .int 30), (4, .int (-20)), (0, .ref 0), (1, .int x1), (2, .int x2), (3, .int x3)]) kc_95_39 rfl rfl (xm_lt ml_95 rfl) ?_
    refine xi_iload_n (pc' := 42) (x := x1) kc_95_41 rfl rfl ?_
    by_cases c2 : x1.toInt < 0
    · refine xi_ift (pc' := 51) kc_95_42 rfl (xc_lt_t (X := x1.toInt) (Y := 0) rfl (by decide) (by omega)) ?_
      refine xi_aload_n (pc' := 52) (x := 0) kc_95_51 rfl rfl ?_
      refine xi_bipush (pc' := 54) (v := (-4)) kc_95_52 rfl rfl ?_
      refine xp_0 K.1 (fun u3 u4 bu3 bu4 A5 => ?_)
      refine xi_virtual (mj := 96) (as := [.int (-4)]) (st1 := []) (lv0 := [(0, .ref 0), (1, .int (-4))]) kc_95_54 rfl rfl rfl rfl rfl A5 (Nat.le_of_ble_eq_true rfl) (hJ _ _ _ _ (by decide)) (xm_le ml_96 rfl) rfl ?_
      refine xi_ldc_w (pc' := 3) (v := 1000000000) kc_96_0 rfl rfl ?_
      refine xi_aload_n (pc' := 4) (x := 0) kc_96_3 rfl rfl ?_
      refine xi_iload_n (pc' := 5) (x := (-4)) kc_96_4 rfl rfl ?_
      refine xi_virtual (mj := 90) (as := [.int (-4)]) (st1 := [.int 1000000000]) (lv0 := [(0, .ref 0), (1, .int (-4))]) kc_96_5 rfl rfl rfl rfl rfl A5 (Nat.le_of_ble_eq_true rfl) (hJ _ _ _ _ (by decide)) (xm_le ml_90 rfl) rfl ?_
      refine xi_iload_n (pc' := 1) (x := (-4)) kc_90_0 rfl rfl ?_
      refine xi_ineg (pc' := 2) (v := 4) kc_90_1 rfl rfl ?_
      refine xi_istore_n (pc' := 3) (lv' := [(2, .int 4), (0, .ref 0), (1, .int (-4))]) kc_90_2 rfl rfl (xm_lt ml_90 rfl) ?_
      refine xi_iload_n (pc' := 4) (x := 4) kc_90_3 rfl rfl ?_
      refine xi_iff (pc' := 7) kc_90_4 rfl rfl ?_
      refine xi_iload_n (pc' := 8) (x := 4) kc_90_7 rfl rfl ?_
      refine xi_aload_n (pc' := 9) (x := 0) kc_90_8 rfl rfl ?_
      refine xi_getfield (pc' := 12) (v := .ref 94) kc_90_9 rfl rfl rfl A5 rfl ?_
      refine xcps4 (xk_arr K.1 xD_94) (fun y6 A6 hy6 ry6 => ?_)
      refine xi_arraylength (pc' := 13) (n := 7) (v := 7) kc_90_12 rfl (xl_lenI (by decide) (by decide) A6 hy6) rfl ?_
      refine xi_cmf (pc' := 16) kc_90_13 rfl rfl ?_
      refine xi_aload_n (pc' := 17) (x := 0) kc_90_16 rfl rfl ?_
      refine xi_getfield (pc' := 20) (v := .ref 94) kc_90_17 rfl rfl rfl A5 rfl ?_
      refine xi_iload_n (pc' := 21) (x := 4) kc_90_20 rfl rfl ?_
      refine xi_dup2 (pc' := 22) kc_90_21 rfl ⟨rfl, rfl⟩ ?_
      refine xcps4 (xj_get hy6 ry6 (i := 4) (by decide) (by decide)) (fun v7 ev7 bv7 dv7 => ?_)
      refine xi_iaload (pc' := 23) (v := v7) kc_90_22 rfl A6 (by decide) rfl (xi_in (by decide) (by rw [hy6]; decide)) ev7 ?_
      refine xi_iconst (pc' := 24) (v := 1) kc_90_23 rfl rfl ?_
      refine xcps2 (α := Int32) ((v7 : Int32) + 1) (fun v8 ev8 => ?_)
      have rv8 := xc_rng v8
      refine xi_iadd (pc' := 25) (v := v8) kc_90_24 rfl ev8 ?_
      refine xcps4 (xj_set (v := v8) hy6 ry6 4 (by first | omega | decide) (by first | omega | decide)) (fun y9 s9 hy9 ry9 => ?_)
      refine xi_iastore (pc' := 26) (x' := y9) kc_90_25 rfl A6 rfl (xi_in (by decide) (by rw [hy6]; decide)) s9 (fun hh9 eh9 => ?_)
      have K10 := xk_pa K (xk_wa rfl) xD_94 hy9 ry9 eh9
      refine xi_iload_n (pc' := 27) (x := (-4)) kc_90_26 rfl rfl ?_
      refine xi_ireturn kc_90_27 mr_90 rfl ?_
      show xw J ov (d + 1) 96 (8, [(0, .ref 0), (1, .int (-4))], [.int (-4), .int 1000000000], hh9) _
      refine xi_isub (pc' := 9) (v := 1000000004) kc_96_8 rfl rfl ?_
      refine xi_ireturn kc_96_9 mr_96 rfl ?_
      show xw J ov (d + 2) 95 (57, [(5, .int 30), (4, .int (-20)), (0, .ref 0), (1, .int x1), (2, .int x2), (3, .int x3)], [.int 1000000004], hh9) _
      refine xi_ireturn kc_95_57 mr_95 rfl ?_
      have zc1000000004 : (1000000004 : Int32).toInt = 1000000004 := by decide
      exact kk 1000000004 hh9 K10
    · refine xi_iff (pc' := 45) kc_95_42 rfl (xc_lt_f (X := x1.toInt) (Y := 0) rfl (by decide) (by omega)) ?_
      refine xi_iload_n (pc' := 46) (x := x3) kc_95_45 rfl rfl ?_
      refine xi_iload (pc' := 48) (x := (-20)) kc_95_46 rfl rfl ?_
      by_cases c11 : (-20) ≤ x3.toInt
      · refine xi_cmt (pc' := 58) kc_95_48 rfl (xc_ge_t (X := x3.toInt) (Y := (-20)) rfl (by decide) (by omega)) ?_
        refine xi_iload_n (pc' := 59) (x := x1) kc_95_58 rfl rfl ?_
        refine xi_sipush (pc' := 62) (v := 600) kc_95_59 rfl rfl ?_
        by_cases c12 : 600 ≤ x1.toInt
        · refine xi_cmt (pc' := 77) kc_95_62 rfl (xc_ge_t (X := x1.toInt) (Y := 600) rfl (by decide) (by omega)) ?_
          refine xi_aload_n (pc' := 78) (x := 0) kc_95_77 rfl rfl ?_
          refine xi_bipush (pc' := 80) (v := (-6)) kc_95_78 rfl rfl ?_
          refine xp_0 K.1 (fun u13 u14 bu13 bu14 A15 => ?_)
          refine xi_virtual (mj := 96) (as := [.int (-6)]) (st1 := []) (lv0 := [(0, .ref 0), (1, .int (-6))]) kc_95_80 rfl rfl rfl rfl rfl A15 (Nat.le_of_ble_eq_true rfl) (hJ _ _ _ _ (by decide)) (xm_le ml_96 rfl) rfl ?_
          refine xi_ldc_w (pc' := 3) (v := 1000000000) kc_96_0 rfl rfl ?_
          refine xi_aload_n (pc' := 4) (x := 0) kc_96_3 rfl rfl ?_
          refine xi_iload_n (pc' := 5) (x := (-6)) kc_96_4 rfl rfl ?_
          refine xi_virtual (mj := 90) (as := [.int (-6)]) (st1 := [.int 1000000000]) (lv0 := [(0, .ref 0), (1, .int (-6))]) kc_96_5 rfl rfl rfl rfl rfl A15 (Nat.le_of_ble_eq_true rfl) (hJ _ _ _ _ (by decide)) (xm_le ml_90 rfl) rfl ?_
          refine xi_iload_n (pc' := 1) (x := (-6)) kc_90_0 rfl rfl ?_
          refine xi_ineg (pc' := 2) (v := 6) kc_90_1 rfl rfl ?_
          refine xi_istore_n (pc' := 3) (lv' := [(2, .int 6), (0, .ref 0), (1, .int (-6))]) kc_90_2 rfl rfl (xm_lt ml_90 rfl) ?_
          refine xi_iload_n (pc' := 4) (x := 6) kc_90_3 rfl rfl ?_
          refine xi_iff (pc' := 7) kc_90_4 rfl rfl ?_
          refine xi_iload_n (pc' := 8) (x := 6) kc_90_7 rfl rfl ?_
          refine xi_aload_n (pc' := 9) (x := 0) kc_90_8 rfl rfl ?_
          refine xi_getfield (pc' := 12) (v := .ref 94) kc_90_9 rfl rfl rfl A15 rfl ?_
          refine xcps4 (xk_arr K.1 xD_94) (fun y16 A16 hy16 ry16 => ?_)
          refine xi_arraylength (pc' := 13) (n := 7) (v := 7) kc_90_12 rfl (xl_lenI (by decide) (by decide) A16 hy16) rfl ?_
          refine xi_cmf (pc' := 16) kc_90_13 rfl rfl ?_
          refine xi_aload_n (pc' := 17) (x := 0) kc_90_16 rfl rfl ?_
          refine xi_getfield (pc' := 20) (v := .ref 94) kc_90_17 rfl rfl rfl A15 rfl ?_
          refine xi_iload_n (pc' := 21) (x := 6) kc_90_20 rfl rfl ?_
          refine xi_dup2 (pc' := 22) kc_90_21 rfl ⟨rfl, rfl⟩ ?_
          refine xcps4 (xj_get hy16 ry16 (i := 6) (by decide) (by decide)) (fun v17 ev17 bv17 dv17 => ?_)
          refine xi_iaload (pc' := 23) (v := v17) kc_90_22 rfl A16 (by decide) rfl (xi_in (by decide) (by rw [hy16]; decide)) ev17 ?_
          refine xi_iconst (pc' := 24) (v := 1) kc_90_23 rfl rfl ?_
          refine xcps2 (α := Int32) ((v17 : Int32) + 1) (fun v18 ev18 => ?_)
          have rv18 := xc_rng v18
          refine xi_iadd (pc' := 25) (v := v18) kc_90_24 rfl ev18 ?_
          refine xcps4 (xj_set (v := v18) hy16 ry16 6 (by first | omega | decide) (by first | omega | decide)) (fun y19 s19 hy19 ry19 => ?_)
          refine xi_iastore (pc' := 26) (x' := y19) kc_90_25 rfl A16 rfl (xi_in (by decide) (by rw [hy16]; decide)) s19 (fun hh19 eh19 => ?_)
          have K20 := xk_pa K (xk_wa rfl) xD_94 hy19 ry19 eh19
          refine xi_iload_n (pc' := 27) (x := (-6)) kc_90_26 rfl rfl ?_
          refine xi_ireturn kc_90_27 mr_90 rfl ?_
          show xw J ov (d + 1) 96 (8, [(0, .ref 0), (1, .int (-6))], [.int (-6), .int 1000000000], hh19) _
          refine xi_isub (pc' := 9) (v := 1000000006) kc_96_8 rfl rfl ?_
          refine xi_ireturn kc_96_9 mr_96 rfl ?_
          show xw J ov (d + 2) 95 (83, [(5, .int 30), (4, .int (-20)), (0, .ref 0), (1, .int x1), (2, .int x2), (3, .int x3)], [.int 1000000006], hh19) _
          refine xi_ireturn kc_95_83 mr_95 rfl ?_
          have zc1000000006 : (1000000006 : Int32).toInt = 1000000006 := by decide
          exact kk 1000000006 hh19 K20
        · refine xi_cmf (pc' := 65) kc_95_62 rfl (xc_ge_f (X := x1.toInt) (Y := 600) rfl (by decide) (by omega)) ?_
          refine xi_iload_n (pc' := 66) (x := x3) kc_95_65 rfl rfl ?_
          refine xi_iload (pc' := 68) (x := 30) kc_95_66 rfl rfl ?_
          by_cases c21 : x3.toInt ≤ 30
          · refine xi_cmt (pc' := 84) kc_95_68 rfl (xc_le_t (X := x3.toInt) (Y := 30) rfl (by decide) (by omega)) ?_
            refine xi_aload_n (pc' := 85) (x := 0) kc_95_84 rfl rfl ?_
            refine xp_0 K.1 (fun u22 u23 bu22 bu23 A24 => ?_)
            refine xi_getfield (pc' := 88) (v := .ref 66) kc_95_85 rfl rfl rfl A24 rfl ?_
            refine xp_66 K.1 (fun u26 wl25 bu26 A27 => ?_)
            refine xi_virtual (mj := 91) (as := []) (st1 := []) (lv0 := [(0, .ref 66)]) kc_95_88 rfl rfl rfl rfl rfl A27 (Nat.le_of_ble_eq_true rfl) (hJ _ _ _ _ (by decide)) (xm_le ml_91 rfl) rfl ?_
            refine xi_aload_n (pc' := 1) (x := 66) kc_91_0 rfl rfl ?_
            refine xi_lconst (pc' := 2) (v := 0) kc_91_1 rfl rfl ?_
            refine xi_putfield (pc' := 5) (fs' := [.ref 1, .ref 67, .ref 70, .ref 71, .ref 72, .ref 73, .ref 74, .long 0, .int u26]) kc_91_2 rfl rfl rfl A27 rfl rfl rfl (Nat.le_of_ble_eq_true rfl) rfl (fun hh29 eh28 => ?_)
            have K30 := xk_pl (k := 7) (v := 0) K (xk_wf rfl) xD_66 A27 rfl eh28 rfl
            refine xi_return kc_91_5 mr_91 ?_
            show xw J ov (d + 2) 95 (91, [(5, .int 30), (4, .int (-20)), (0, .ref 0), (1, .int x1), (2, .int x2), (3, .int x3)], [], hh29) _
            refine xi_aload_n (pc' := 92) (x := 0) kc_95_91 rfl rfl ?_
            have A31 := ((eh28.2.1 0 (by decide)).trans A24)
            refine xi_getfield (pc' := 95) (v := .ref 1) kc_95_92 rfl rfl rfl A31 rfl ?_
            refine xi_iload_n (pc' := 96) (x := x2) kc_95_95 rfl rfl ?_
            refine xp_1 K30.1 (fun u32 u33 bu32 bu33 A34 => ?_)
            refine xi_virtual (mj := 97) (as := [.int x2]) (st1 := []) (lv0 := [(0, .ref 1), (1, .int x2)]) kc_95_96 rfl rfl rfl rfl rfl A34 (Nat.le_of_ble_eq_true rfl) (hJ _ _ _ _ (by decide)) (xm_le ml_97 rfl) rfl ?_
            refine xi_iload_n (pc' := 1) (x := x2) kc_97_0 rfl rfl ?_
            refine xi_iff (pc' := 4) kc_97_1 rfl (xc_ne_f (X := x2.toInt) (Y := 0) rfl (by decide) (by omega)) ?_
            refine xi_aload_n (pc' := 5) (x := 1) kc_97_4 rfl rfl ?_
            refine xi_getfield (pc' := 8) (v := .ref 5) kc_97_5 rfl rfl rfl A34 rfl ?_
            refine xi_goto (pc' := 15) kc_97_8 rfl ?_
            refine xi_areturn kc_97_15 (by rw [mr_97]; rfl) ?_
            show xw J ov (d + 2) 95 (99, [(5, .int 30), (4, .int (-20)), (0, .ref 0), (1, .int x1), (2, .int x2), (3, .int x3)], [.ref 5], hh29) _
            refine xi_iload_n (pc' := 100) (x := x1) kc_95_99 rfl rfl ?_
            refine xi_iload_n (pc' := 101) (x := x3) kc_95_100 rfl rfl ?_
            refine xp_5 K30.1 (fun u35 bu35 A36 => ?_)
            refine xi_virtual (mj := 98) (as := [.int x1, .int x3]) (st1 := []) (lv0 := [(0, .ref 5), (1, .int x1), (2, .int x3)]) kc_95_101 rfl rfl rfl rfl rfl A36 (Nat.le_of_ble_eq_true rfl) (hJ _ _ _ _ (by decide)) (xm_le ml_98 rfl) rfl ?_
            refine mt_98_0 hJ hov1 hov2 (d := d) (x1 := x1) (x2 := x3) K30.1 (by first | omega | decide) (by first | omega | decide) (fun r37 hh38 K39 => ?_)
            have br37 := xc_rng r37
            have K40 := xk_tr K30 K39 rfl
            refine xp_0 K40.1 (fun u41 u42 bu41 bu42 A43 => ?_)
            have e44 : u23 = u42 := xk_eqi (q := 9) K39 rfl A31 A43 rfl rfl
            subst e44
            refine xp_1 K40.1 (fun u45 u46 bu45 bu46 A47 => ?_)
            have e48 : u32 = u45 := xk_eqi (q := 5) K39 rfl A34 A47 rfl rfl
            subst e48
            show xw J ov (d + 2) 95 (104, [(5, .int 30), (4, .int (-20)), (0, .ref 0), (1, .int x1), (2, .int x2), (3, .int x3)], [.int r37], hh38) _
            refine xi_ireturn kc_95_104 mr_95 rfl ?_
            exact kk r37 hh38 K40
          · refine xi_cmf (pc' := 71) kc_95_68 rfl (xc_le_f (X := x3.toInt) (Y := 30) rfl (by decide) (by omega)) ?_
            refine xi_iload_n (pc' := 72) (x := x3) kc_95_71 rfl rfl ?_
            refine xi_bipush (pc' := 74) (v := 99) kc_95_72 rfl rfl ?_
            by_cases c49 : x3.toInt = 99
            · refine xi_cmt (pc' := 84) kc_95_74 rfl (xc_eq_t (X := x3.toInt) (Y := 99) rfl (by decide) (by omega)) ?_
              refine xi_aload_n (pc' := 85) (x := 0) kc_95_84 rfl rfl ?_
              refine xp_0 K.1 (fun u50 u51 bu50 bu51 A52 => ?_)
              refine xi_getfield (pc' := 88) (v := .ref 66) kc_95_85 rfl rfl rfl A52 rfl ?_
              refine xp_66 K.1 (fun u54 wl53 bu54 A55 => ?_)
              refine xi_virtual (mj := 91) (as := []) (st1 := []) (lv0 := [(0, .ref 66)]) kc_95_88 rfl rfl rfl rfl rfl A55 (Nat.le_of_ble_eq_true rfl) (hJ _ _ _ _ (by decide)) (xm_le ml_91 rfl) rfl ?_
              refine xi_aload_n (pc' := 1) (x := 66) kc_91_0 rfl rfl ?_
              refine xi_lconst (pc' := 2) (v := 0) kc_91_1 rfl rfl ?_
              refine xi_putfield (pc' := 5) (fs' := [.ref 1, .ref 67, .ref 70, .ref 71, .ref 72, .ref 73, .ref 74, .long 0, .int u54]) kc_91_2 rfl rfl rfl A55 rfl rfl rfl (Nat.le_of_ble_eq_true rfl) rfl (fun hh57 eh56 => ?_)
              have K58 := xk_pl (k := 7) (v := 0) K (xk_wf rfl) xD_66 A55 rfl eh56 rfl
              refine xi_return kc_91_5 mr_91 ?_
              show xw J ov (d + 2) 95 (91, [(5, .int 30), (4, .int (-20)), (0, .ref 0), (1, .int x1), (2, .int x2), (3, .int x3)], [], hh57) _
              refine xi_aload_n (pc' := 92) (x := 0) kc_95_91 rfl rfl ?_
              have A59 := ((eh56.2.1 0 (by decide)).trans A52)
              refine xi_getfield (pc' := 95) (v := .ref 1) kc_95_92 rfl rfl rfl A59 rfl ?_
              refine xi_iload_n (pc' := 96) (x := x2) kc_95_95 rfl rfl ?_
              refine xp_1 K58.1 (fun u60 u61 bu60 bu61 A62 => ?_)
              refine xi_virtual (mj := 97) (as := [.int x2]) (st1 := []) (lv0 := [(0, .ref 1), (1, .int x2)]) kc_95_96 rfl rfl rfl rfl rfl A62 (Nat.le_of_ble_eq_true rfl) (hJ _ _ _ _ (by decide)) (xm_le ml_97 rfl) rfl ?_
              refine xi_iload_n (pc' := 1) (x := x2) kc_97_0 rfl rfl ?_
              refine xi_iff (pc' := 4) kc_97_1 rfl (xc_ne_f (X := x2.toInt) (Y := 0) rfl (by decide) (by omega)) ?_
              refine xi_aload_n (pc' := 5) (x := 1) kc_97_4 rfl rfl ?_
              refine xi_getfield (pc' := 8) (v := .ref 5) kc_97_5 rfl rfl rfl A62 rfl ?_
              refine xi_goto (pc' := 15) kc_97_8 rfl ?_
              refine xi_areturn kc_97_15 (by rw [mr_97]; rfl) ?_
              show xw J ov (d + 2) 95 (99, [(5, .int 30), (4, .int (-20)), (0, .ref 0), (1, .int x1), (2, .int x2), (3, .int x3)], [.ref 5], hh57) _
              refine xi_iload_n (pc' := 100) (x := x1) kc_95_99 rfl rfl ?_
              refine xi_iload_n (pc' := 101) (x := x3) kc_95_100 rfl rfl ?_
              refine xp_5 K58.1 (fun u63 bu63 A64 => ?_)
              refine xi_virtual (mj := 98) (as := [.int x1, .int x3]) (st1 := []) (lv0 := [(0, .ref 5), (1, .int x1), (2, .int x3)]) kc_95_101 rfl rfl rfl rfl rfl A64 (Nat.le_of_ble_eq_true rfl) (hJ _ _ _ _ (by decide)) (xm_le ml_98 rfl) rfl ?_
              refine mt_98_0 hJ hov1 hov2 (d := d) (x1 := x1) (x2 := x3) K58.1 (by first | omega | decide) (by first | omega | decide) (fun r65 hh66 K67 => ?_)
              have br65 := xc_rng r65
              have K68 := xk_tr K58 K67 rfl
              refine xp_0 K68.1 (fun u69 u70 bu69 bu70 A71 => ?_)
              have e72 : u51 = u70 := xk_eqi (q := 9) K67 rfl A59 A71 rfl rfl
              subst e72
              refine xp_1 K68.1 (fun u73 u74 bu73 bu74 A75 => ?_)
              have e76 : u60 = u73 := xk_eqi (q := 5) K67 rfl A62 A75 rfl rfl
              subst e76
              show xw J ov (d + 2) 95 (104, [(5, .int 30), (4, .int (-20)), (0, .ref 0), (1, .int x1), (2, .int x2), (3, .int x3)], [.int r65], hh66) _
              refine xi_ireturn kc_95_104 mr_95 rfl ?_
              exact kk r65 hh66 K68
            · refine xi_cmf (pc' := 77) kc_95_74 rfl (xc_eq_f (X := x3.toInt) (Y := 99) rfl (by decide) (by omega)) ?_
              refine xi_aload_n (pc' := 78) (x := 0) kc_95_77 rfl rfl ?_
              refine xi_bipush (pc' := 80) (v := (-6)) kc_95_78 rfl rfl ?_
              refine xp_0 K.1 (fun u77 u78 bu77 bu78 A79 => ?_)
              refine xi_virtual (mj := 96) (as := [.int (-6)]) (st1 := []) (lv0 := [(0, .ref 0), (1, .int (-6))]) kc_95_80 rfl rfl rfl rfl rfl A79 (Nat.le_of_ble_eq_true rfl) (hJ _ _ _ _ (by decide)) (xm_le ml_96 rfl) rfl ?_
              refine xi_ldc_w (pc' := 3) (v := 1000000000) kc_96_0 rfl rfl ?_
              refine xi_aload_n (pc' := 4) (x := 0) kc_96_3 rfl rfl ?_
              refine xi_iload_n (pc' := 5) (x := (-6)) kc_96_4 rfl rfl ?_
              refine xi_virtual (mj := 90) (as := [.int (-6)]) (st1 := [.int 1000000000]) (lv0 := [(0, .ref 0), (1, .int (-6))]) kc_96_5 rfl rfl rfl rfl rfl A79 (Nat.le_of_ble_eq_true rfl) (hJ _ _ _ _ (by decide)) (xm_le ml_90 rfl) rfl ?_
              refine xi_iload_n (pc' := 1) (x := (-6)) kc_90_0 rfl rfl ?_
              refine xi_ineg (pc' := 2) (v := 6) kc_90_1 rfl rfl ?_
              refine xi_istore_n (pc' := 3) (lv' := [(2, .int 6), (0, .ref 0), (1, .int (-6))]) kc_90_2 rfl rfl (xm_lt ml_90 rfl) ?_
              refine xi_iload_n (pc' := 4) (x := 6) kc_90_3 rfl rfl ?_
              refine xi_iff (pc' := 7) kc_90_4 rfl rfl ?_
              refine xi_iload_n (pc' := 8) (x := 6) kc_90_7 rfl rfl ?_
              refine xi_aload_n (pc' := 9) (x := 0) kc_90_8 rfl rfl ?_
              refine xi_getfield (pc' := 12) (v := .ref 94) kc_90_9 rfl rfl rfl A79 rfl ?_
              refine xcps4 (xk_arr K.1 xD_94) (fun y80 A80 hy80 ry80 => ?_)
              refine xi_arraylength (pc' := 13) (n := 7) (v := 7) kc_90_12 rfl (xl_lenI (by decide) (by decide) A80 hy80) rfl ?_
              refine xi_cmf (pc' := 16) kc_90_13 rfl rfl ?_
              refine xi_aload_n (pc' := 17) (x := 0) kc_90_16 rfl rfl ?_
              refine xi_getfield (pc' := 20) (v := .ref 94) kc_90_17 rfl rfl rfl A79 rfl ?_
              refine xi_iload_n (pc' := 21) (x := 6) kc_90_20 rfl rfl ?_
              refine xi_dup2 (pc' := 22) kc_90_21 rfl ⟨rfl, rfl⟩ ?_
              refine xcps4 (xj_get hy80 ry80 (i := 6) (by decide) (by decide)) (fun v81 ev81 bv81 dv81 => ?_)
              refine xi_iaload (pc' := 23) (v := v81) kc_90_22 rfl A80 (by decide) rfl (xi_in (by decide) (by rw [hy80]; decide)) ev81 ?_
              refine xi_iconst (pc' := 24) (v := 1) kc_90_23 rfl rfl ?_
              refine xcps2 (α := Int32) ((v81 : Int32) + 1) (fun v82 ev82 => ?_)
              have rv82 := xc_rng v82
              refine xi_iadd (pc' := 25) (v := v82) kc_90_24 rfl ev82 ?_
              refine xcps4 (xj_set (v := v82) hy80 ry80 6 (by first | omega | decide) (by first | omega | decide)) (fun y83 s83 hy83 ry83 => ?_)
              refine xi_iastore (pc' := 26) (x' := y83) kc_90_25 rfl A80 rfl (xi_in (by decide) (by rw [hy80]; decide)) s83 (fun hh83 eh83 => ?_)
              have K84 := xk_pa K (xk_wa rfl) xD_94 hy83 ry83 eh83
              refine xi_iload_n (pc' := 27) (x := (-6)) kc_90_26 rfl rfl ?_
              refine xi_ireturn kc_90_27 mr_90 rfl ?_
              show xw J ov (d + 1) 96 (8, [(0, .ref 0), (1, .int (-6))], [.int (-6), .int 1000000000], hh83) _
              refine xi_isub (pc' := 9) (v := 1000000006) kc_96_8 rfl rfl ?_
              refine xi_ireturn kc_96_9 mr_96 rfl ?_
              show xw J ov (d + 2) 95 (83, [(5, .int 30), (4, .int (-20)), (0, .ref 0), (1, .int x1), (2, .int x2), (3, .int x3)], [.int 1000000006], hh83) _
              refine xi_ireturn kc_95_83 mr_95 rfl ?_
              have zc1000000006 : (1000000006 : Int32).toInt = 1000000006 := by decide
              exact kk 1000000006 hh83 K84
      · refine xi_cmf (pc' := 51) kc_95_48 rfl (xc_ge_f (X := x3.toInt) (Y := (-20)) rfl (by decide) (by omega)) ?_
        refine xi_aload_n (pc' := 52) (x := 0) kc_95_51 rfl rfl ?_
        refine xi_bipush (pc' := 54) (v := (-4)) kc_95_52 rfl rfl ?_
        refine xp_0 K.1 (fun u85 u86 bu85 bu86 A87 => ?_)
        refine xi_virtual (mj := 96) (as := [.int (-4)]) (st1 := []) (lv0 := [(0, .ref 0), (1, .int (-4))]) kc_95_54 rfl rfl rfl rfl rfl A87 (Nat.le_of_ble_eq_true rfl) (hJ _ _ _ _ (by decide)) (xm_le ml_96 rfl) rfl ?_
        refine xi_ldc_w (pc' := 3) (v := 1000000000) kc_96_0 rfl rfl ?_
        refine xi_aload_n (pc' := 4) (x := 0) kc_96_3 rfl rfl ?_
        refine xi_iload_n (pc' := 5) (x := (-4)) kc_96_4 rfl rfl ?_
        refine xi_virtual (mj := 90) (as := [.int (-4)]) (st1 := [.int 1000000000]) (lv0 := [(0, .ref 0), (1, .int (-4))]) kc_96_5 rfl rfl rfl rfl rfl A87 (Nat.le_of_ble_eq_true rfl) (hJ _ _ _ _ (by decide)) (xm_le ml_90 rfl) rfl ?_
        refine xi_iload_n (pc' := 1) (x := (-4)) kc_90_0 rfl rfl ?_
        refine xi_ineg (pc' := 2) (v := 4) kc_90_1 rfl rfl ?_
        refine xi_istore_n (pc' := 3) (lv' := [(2, .int 4), (0, .ref 0), (1, .int (-4))]) kc_90_2 rfl rfl (xm_lt ml_90 rfl) ?_
        refine xi_iload_n (pc' := 4) (x := 4) kc_90_3 rfl rfl ?_
        refine xi_iff (pc' := 7) kc_90_4 rfl rfl ?_
        refine xi_iload_n (pc' := 8) (x := 4) kc_90_7 rfl rfl ?_
        refine xi_aload_n (pc' := 9) (x := 0) kc_90_8 rfl rfl ?_
        refine xi_getfield (pc' := 12) (v := .ref 94) kc_90_9 rfl rfl rfl A87 rfl ?_
        refine xcps4 (xk_arr K.1 xD_94) (fun y88 A88 hy88 ry88 => ?_)
        refine xi_arraylength (pc' := 13) (n := 7) (v := 7) kc_90_12 rfl (xl_lenI (by decide) (by decide) A88 hy88) rfl ?_
        refine xi_cmf (pc' := 16) kc_90_13 rfl rfl ?_
        refine xi_aload_n (pc' := 17) (x := 0) kc_90_16 rfl rfl ?_
        refine xi_getfield (pc' := 20) (v := .ref 94) kc_90_17 rfl rfl rfl A87 rfl ?_
        refine xi_iload_n (pc' := 21) (x := 4) kc_90_20 rfl rfl ?_
        refine xi_dup2 (pc' := 22) kc_90_21 rfl ⟨rfl, rfl⟩ ?_
        refine xcps4 (xj_get hy88 ry88 (i := 4) (by decide) (by decide)) (fun v89 ev89 bv89 dv89 => ?_)
        refine xi_iaload (pc' := 23) (v := v89) kc_90_22 rfl A88 (by decide) rfl (xi_in (by decide) (by rw [hy88]; decide)) ev89 ?_
        refine xi_iconst (pc' := 24) (v := 1) kc_90_23 rfl rfl ?_
        refine xcps2 (α := Int32) ((v89 : Int32) + 1) (fun v90 ev90 => ?_)
        have rv90 := xc_rng v90
        refine xi_iadd (pc' := 25) (v := v90) kc_90_24 rfl ev90 ?_
        refine xcps4 (xj_set (v := v90) hy88 ry88 4 (by first | omega | decide) (by first | omega | decide)) (fun y91 s91 hy91 ry91 => ?_)
        refine xi_iastore (pc' := 26) (x' := y91) kc_90_25 rfl A88 rfl (xi_in (by decide) (by rw [hy88]; decide)) s91 (fun hh91 eh91 => ?_)
        have K92 := xk_pa K (xk_wa rfl) xD_94 hy91 ry91 eh91
        refine xi_iload_n (pc' := 27) (x := (-4)) kc_90_26 rfl rfl ?_
        refine xi_ireturn kc_90_27 mr_90 rfl ?_
        show xw J ov (d + 1) 96 (8, [(0, .ref 0), (1, .int (-4))], [.int (-4), .int 1000000000], hh91) _
        refine xi_isub (pc' := 9) (v := 1000000004) kc_96_8 rfl rfl ?_
        refine xi_ireturn kc_96_9 mr_96 rfl ?_
        show xw J ov (d + 2) 95 (57, [(5, .int 30), (4, .int (-20)), (0, .ref 0), (1, .int x1), (2, .int x2), (3, .int x3)], [.int 1000000004], hh91) _
        refine xi_ireturn kc_95_57 mr_95 rfl ?_
        have zc1000000004 : (1000000004 : Int32).toInt = 1000000004 := by decide
        exact kk 1000000004 hh91 K92
  · refine xi_iff (pc' := 4) kc_95_1 rfl (xc_eq_f (X := x2.toInt) (Y := 0) rfl (by decide) (by omega)) ?_
    refine xi_iload_n (pc' := 5) (x := x2) kc_95_4 rfl rfl ?_
    refine xi_iconst (pc' := 6) (v := 1) kc_95_5 rfl rfl ?_
    by_cases c93 : x2.toInt = 1
    · refine xi_cmt (pc' := 16) kc_95_6 rfl (xc_eq_t (X := x2.toInt) (Y := 1) rfl (by decide) (by omega)) ?_
      refine xi_iload_n (pc' := 17) (x := x2) kc_95_16 rfl rfl ?_
      refine xi_ift (pc' := 25) kc_95_17 rfl (xc_ne_t (X := x2.toInt) (Y := 0) rfl (by decide) (by omega)) ?_
      refine xi_iconst (pc' := 26) (v := 0) kc_95_25 rfl rfl ?_
      refine xi_istore (pc' := 28) (lv' := [(4, .int 0), (0, .ref 0), (1, .int x1), (2, .int x2), (3, .int x3)]) kc_95_26 rfl rfl (xm_lt ml_95 rfl) ?_
      refine xi_iload_n (pc' := 29) (x := x2) kc_95_28 rfl rfl ?_
      refine xi_ift (pc' := 37) kc_95_29 rfl (xc_ne_t (X := x2.toInt) (Y := 0) rfl (by decide) (by omega)) ?_
      refine xi_bipush (pc' := 39) (v := 20) kc_95_37 rfl rfl ?_
      refine xi_istore (pc' := 41) (lv' := [(5, .int 20), (4, .int 0), (0, .ref 0), (1, .int x1), (2, .int x2), (3, .int x3)]) kc_95_39 rfl rfl (xm_lt ml_95 rfl) ?_
      refine xi_iload_n (pc' := 42) (x := x1) kc_95_41 rfl rfl ?_
      by_cases c94 : x1.toInt < 0
      · refine xi_ift (pc' := 51) kc_95_42 rfl (xc_lt_t (X := x1.toInt) (Y := 0) rfl (by decide) (by omega)) ?_
        refine xi_aload_n (pc' := 52) (x := 0) kc_95_51 rfl rfl ?_
        refine xi_bipush (pc' := 54) (v := (-4)) kc_95_52 rfl rfl ?_
        refine xp_0 K.1 (fun u95 u96 bu95 bu96 A97 => ?_)
        refine xi_virtual (mj := 96) (as := [.int (-4)]) (st1 := []) (lv0 := [(0, .ref 0), (1, .int (-4))]) kc_95_54 rfl rfl rfl rfl rfl A97 (Nat.le_of_ble_eq_true rfl) (hJ _ _ _ _ (by decide)) (xm_le ml_96 rfl) rfl ?_
        refine xi_ldc_w (pc' := 3) (v := 1000000000) kc_96_0 rfl rfl ?_
        refine xi_aload_n (pc' := 4) (x := 0) kc_96_3 rfl rfl ?_
        refine xi_iload_n (pc' := 5) (x := (-4)) kc_96_4 rfl rfl ?_
        refine xi_virtual (mj := 90) (as := [.int (-4)]) (st1 := [.int 1000000000]) (lv0 := [(0, .ref 0), (1, .int (-4))]) kc_96_5 rfl rfl rfl rfl rfl A97 (Nat.le_of_ble_eq_true rfl) (hJ _ _ _ _ (by decide)) (xm_le ml_90 rfl) rfl ?_
        refine xi_iload_n (pc' := 1) (x := (-4)) kc_90_0 rfl rfl ?_
        refine xi_ineg (pc' := 2) (v := 4) kc_90_1 rfl rfl ?_
        refine xi_istore_n (pc' := 3) (lv' := [(2, .int 4), (0, .ref 0), (1, .int (-4))]) kc_90_2 rfl rfl (xm_lt ml_90 rfl) ?_
        refine xi_iload_n (pc' := 4) (x := 4) kc_90_3 rfl rfl ?_
        refine xi_iff (pc' := 7) kc_90_4 rfl rfl ?_
        refine xi_iload_n (pc' := 8) (x := 4) kc_90_7 rfl rfl ?_
        refine xi_aload_n (pc' := 9) (x := 0) kc_90_8 rfl rfl ?_
        refine xi_getfield (pc' := 12) (v := .ref 94) kc_90_9 rfl rfl rfl A97 rfl ?_
        refine xcps4 (xk_arr K.1 xD_94) (fun y98 A98 hy98 ry98 => ?_)
        refine xi_arraylength (pc' := 13) (n := 7) (v := 7) kc_90_12 rfl (xl_lenI (by decide) (by decide) A98 hy98) rfl ?_
        refine xi_cmf (pc' := 16) kc_90_13 rfl rfl ?_
        refine xi_aload_n (pc' := 17) (x := 0) kc_90_16 rfl rfl ?_
        refine xi_getfield (pc' := 20) (v := .ref 94) kc_90_17 rfl rfl rfl A97 rfl ?_
        refine xi_iload_n (pc' := 21) (x := 4) kc_90_20 rfl rfl ?_
        refine xi_dup2 (pc' := 22) kc_90_21 rfl ⟨rfl, rfl⟩ ?_
        refine xcps4 (xj_get hy98 ry98 (i := 4) (by decide) (by decide)) (fun v99 ev99 bv99 dv99 => ?_)
        refine xi_iaload (pc' := 23) (v := v99) kc_90_22 rfl A98 (by decide) rfl (xi_in (by decide) (by rw [hy98]; decide)) ev99 ?_
        refine xi_iconst (pc' := 24) (v := 1) kc_90_23 rfl rfl ?_
        refine xcps2 (α := Int32) ((v99 : Int32) + 1) (fun v100 ev100 => ?_)
        have rv100 := xc_rng v100
        refine xi_iadd (pc' := 25) (v := v100) kc_90_24 rfl ev100 ?_
        refine xcps4 (xj_set (v := v100) hy98 ry98 4 (by first | omega | decide) (by first | omega | decide)) (fun y101 s101 hy101 ry101 => ?_)
        refine xi_iastore (pc' := 26) (x' := y101) kc_90_25 rfl A98 rfl (xi_in (by decide) (by rw [hy98]; decide)) s101 (fun hh101 eh101 => ?_)
        have K102 := xk_pa K (xk_wa rfl) xD_94 hy101 ry101 eh101
        refine xi_iload_n (pc' := 27) (x := (-4)) kc_90_26 rfl rfl ?_
        refine xi_ireturn kc_90_27 mr_90 rfl ?_
        show xw J ov (d + 1) 96 (8, [(0, .ref 0), (1, .int (-4))], [.int (-4), .int 1000000000], hh101) _
        refine xi_isub (pc' := 9) (v := 1000000004) kc_96_8 rfl rfl ?_
        refine xi_ireturn kc_96_9 mr_96 rfl ?_
        show xw J ov (d + 2) 95 (57, [(5, .int 20), (4, .int 0), (0, .ref 0), (1, .int x1), (2, .int x2), (3, .int x3)], [.int 1000000004], hh101) _
        refine xi_ireturn kc_95_57 mr_95 rfl ?_
        have zc1000000004 : (1000000004 : Int32).toInt = 1000000004 := by decide
        exact kk 1000000004 hh101 K102
      · refine xi_iff (pc' := 45) kc_95_42 rfl (xc_lt_f (X := x1.toInt) (Y := 0) rfl (by decide) (by omega)) ?_
        refine xi_iload_n (pc' := 46) (x := x3) kc_95_45 rfl rfl ?_
        refine xi_iload (pc' := 48) (x := 0) kc_95_46 rfl rfl ?_
        by_cases c103 : 0 ≤ x3.toInt
        · refine xi_cmt (pc' := 58) kc_95_48 rfl (xc_ge_t (X := x3.toInt) (Y := 0) rfl (by decide) (by omega)) ?_
          refine xi_iload_n (pc' := 59) (x := x1) kc_95_58 rfl rfl ?_
          refine xi_sipush (pc' := 62) (v := 600) kc_95_59 rfl rfl ?_
          by_cases c104 : 600 ≤ x1.toInt
          · refine xi_cmt (pc' := 77) kc_95_62 rfl (xc_ge_t (X := x1.toInt) (Y := 600) rfl (by decide) (by omega)) ?_
            refine xi_aload_n (pc' := 78) (x := 0) kc_95_77 rfl rfl ?_
            refine xi_bipush (pc' := 80) (v := (-6)) kc_95_78 rfl rfl ?_
            refine xp_0 K.1 (fun u105 u106 bu105 bu106 A107 => ?_)
            refine xi_virtual (mj := 96) (as := [.int (-6)]) (st1 := []) (lv0 := [(0, .ref 0), (1, .int (-6))]) kc_95_80 rfl rfl rfl rfl rfl A107 (Nat.le_of_ble_eq_true rfl) (hJ _ _ _ _ (by decide)) (xm_le ml_96 rfl) rfl ?_
            refine xi_ldc_w (pc' := 3) (v := 1000000000) kc_96_0 rfl rfl ?_
            refine xi_aload_n (pc' := 4) (x := 0) kc_96_3 rfl rfl ?_
            refine xi_iload_n (pc' := 5) (x := (-6)) kc_96_4 rfl rfl ?_
            refine xi_virtual (mj := 90) (as := [.int (-6)]) (st1 := [.int 1000000000]) (lv0 := [(0, .ref 0), (1, .int (-6))]) kc_96_5 rfl rfl rfl rfl rfl A107 (Nat.le_of_ble_eq_true rfl) (hJ _ _ _ _ (by decide)) (xm_le ml_90 rfl) rfl ?_
            refine xi_iload_n (pc' := 1) (x := (-6)) kc_90_0 rfl rfl ?_
            refine xi_ineg (pc' := 2) (v := 6) kc_90_1 rfl rfl ?_
            refine xi_istore_n (pc' := 3) (lv' := [(2, .int 6), (0, .ref 0), (1, .int (-6))]) kc_90_2 rfl rfl (xm_lt ml_90 rfl) ?_
            refine xi_iload_n (pc' := 4) (x := 6) kc_90_3 rfl rfl ?_
            refine xi_iff (pc' := 7) kc_90_4 rfl rfl ?_
            refine xi_iload_n (pc' := 8) (x := 6) kc_90_7 rfl rfl ?_
            refine xi_aload_n (pc' := 9) (x := 0) kc_90_8 rfl rfl ?_
            refine xi_getfield (pc' := 12) (v := .ref 94) kc_90_9 rfl rfl rfl A107 rfl ?_
            refine xcps4 (xk_arr K.1 xD_94) (fun y108 A108 hy108 ry108 => ?_)
            refine xi_arraylength (pc' := 13) (n := 7) (v := 7) kc_90_12 rfl (xl_lenI (by decide) (by decide) A108 hy108) rfl ?_
            refine xi_cmf (pc' := 16) kc_90_13 rfl rfl ?_
            refine xi_aload_n (pc' := 17) (x := 0) kc_90_16 rfl rfl ?_
            refine xi_getfield (pc' := 20) (v := .ref 94) kc_90_17 rfl rfl rfl A107 rfl ?_
            refine xi_iload_n (pc' := 21) (x := 6) kc_90_20 rfl rfl ?_
            refine xi_dup2 (pc' := 22) kc_90_21 rfl ⟨rfl, rfl⟩ ?_
            refine xcps4 (xj_get hy108 ry108 (i := 6) (by decide) (by decide)) (fun v109 ev109 bv109 dv109 => ?_)
            refine xi_iaload (pc' := 23) (v := v109) kc_90_22 rfl A108 (by decide) rfl (xi_in (by decide) (by rw [hy108]; decide)) ev109 ?_
            refine xi_iconst (pc' := 24) (v := 1) kc_90_23 rfl rfl ?_
            refine xcps2 (α := Int32) ((v109 : Int32) + 1) (fun v110 ev110 => ?_)
            have rv110 := xc_rng v110
            refine xi_iadd (pc' := 25) (v := v110) kc_90_24 rfl ev110 ?_
            refine xcps4 (xj_set (v := v110) hy108 ry108 6 (by first | omega | decide) (by first | omega | decide)) (fun y111 s111 hy111 ry111 => ?_)
            refine xi_iastore (pc' := 26) (x' := y111) kc_90_25 rfl A108 rfl (xi_in (by decide) (by rw [hy108]; decide)) s111 (fun hh111 eh111 => ?_)
            have K112 := xk_pa K (xk_wa rfl) xD_94 hy111 ry111 eh111
            refine xi_iload_n (pc' := 27) (x := (-6)) kc_90_26 rfl rfl ?_
            refine xi_ireturn kc_90_27 mr_90 rfl ?_
            show xw J ov (d + 1) 96 (8, [(0, .ref 0), (1, .int (-6))], [.int (-6), .int 1000000000], hh111) _
            refine xi_isub (pc' := 9) (v := 1000000006) kc_96_8 rfl rfl ?_
            refine xi_ireturn kc_96_9 mr_96 rfl ?_
            show xw J ov (d + 2) 95 (83, [(5, .int 20), (4, .int 0), (0, .ref 0), (1, .int x1), (2, .int x2), (3, .int x3)], [.int 1000000006], hh111) _
            refine xi_ireturn kc_95_83 mr_95 rfl ?_
            have zc1000000006 : (1000000006 : Int32).toInt = 1000000006 := by decide
            exact kk 1000000006 hh111 K112
          · refine xi_cmf (pc' := 65) kc_95_62 rfl (xc_ge_f (X := x1.toInt) (Y := 600) rfl (by decide) (by omega)) ?_
            refine xi_iload_n (pc' := 66) (x := x3) kc_95_65 rfl rfl ?_
            refine xi_iload (pc' := 68) (x := 20) kc_95_66 rfl rfl ?_
            by_cases c113 : x3.toInt ≤ 20
            · refine xi_cmt (pc' := 84) kc_95_68 rfl (xc_le_t (X := x3.toInt) (Y := 20) rfl (by decide) (by omega)) ?_
              refine xi_aload_n (pc' := 85) (x := 0) kc_95_84 rfl rfl ?_
              refine xp_0 K.1 (fun u114 u115 bu114 bu115 A116 => ?_)
              refine xi_getfield (pc' := 88) (v := .ref 66) kc_95_85 rfl rfl rfl A116 rfl ?_
              refine xp_66 K.1 (fun u118 wl117 bu118 A119 => ?_)
              refine xi_virtual (mj := 91) (as := []) (st1 := []) (lv0 := [(0, .ref 66)]) kc_95_88 rfl rfl rfl rfl rfl A119 (Nat.le_of_ble_eq_true rfl) (hJ _ _ _ _ (by decide)) (xm_le ml_91 rfl) rfl ?_
              refine xi_aload_n (pc' := 1) (x := 66) kc_91_0 rfl rfl ?_
              refine xi_lconst (pc' := 2) (v := 0) kc_91_1 rfl rfl ?_
              refine xi_putfield (pc' := 5) (fs' := [.ref 1, .ref 67, .ref 70, .ref 71, .ref 72, .ref 73, .ref 74, .long 0, .int u118]) kc_91_2 rfl rfl rfl A119 rfl rfl rfl (Nat.le_of_ble_eq_true rfl) rfl (fun hh121 eh120 => ?_)
              have K122 := xk_pl (k := 7) (v := 0) K (xk_wf rfl) xD_66 A119 rfl eh120 rfl
              refine xi_return kc_91_5 mr_91 ?_
              show xw J ov (d + 2) 95 (91, [(5, .int 20), (4, .int 0), (0, .ref 0), (1, .int x1), (2, .int x2), (3, .int x3)], [], hh121) _
              refine xi_aload_n (pc' := 92) (x := 0) kc_95_91 rfl rfl ?_
              have A123 := ((eh120.2.1 0 (by decide)).trans A116)
              refine xi_getfield (pc' := 95) (v := .ref 1) kc_95_92 rfl rfl rfl A123 rfl ?_
              refine xi_iload_n (pc' := 96) (x := x2) kc_95_95 rfl rfl ?_
              refine xp_1 K122.1 (fun u124 u125 bu124 bu125 A126 => ?_)
              refine xi_virtual (mj := 97) (as := [.int x2]) (st1 := []) (lv0 := [(0, .ref 1), (1, .int x2)]) kc_95_96 rfl rfl rfl rfl rfl A126 (Nat.le_of_ble_eq_true rfl) (hJ _ _ _ _ (by decide)) (xm_le ml_97 rfl) rfl ?_
              refine xi_iload_n (pc' := 1) (x := x2) kc_97_0 rfl rfl ?_
              refine xi_ift (pc' := 11) kc_97_1 rfl (xc_ne_t (X := x2.toInt) (Y := 0) rfl (by decide) (by omega)) ?_
              refine xi_aload_n (pc' := 12) (x := 1) kc_97_11 rfl rfl ?_
              refine xi_getfield (pc' := 15) (v := .ref 8) kc_97_12 rfl rfl rfl A126 rfl ?_
              refine xi_areturn kc_97_15 (by rw [mr_97]; rfl) ?_
              show xw J ov (d + 2) 95 (99, [(5, .int 20), (4, .int 0), (0, .ref 0), (1, .int x1), (2, .int x2), (3, .int x3)], [.ref 8], hh121) _
              refine xi_iload_n (pc' := 100) (x := x1) kc_95_99 rfl rfl ?_
              refine xi_iload_n (pc' := 101) (x := x3) kc_95_100 rfl rfl ?_
              refine xp_8 K122.1 (fun u127 bu127 A128 => ?_)
              refine xi_virtual (mj := 98) (as := [.int x1, .int x3]) (st1 := []) (lv0 := [(0, .ref 8), (1, .int x1), (2, .int x3)]) kc_95_101 rfl rfl rfl rfl rfl A128 (Nat.le_of_ble_eq_true rfl) (hJ _ _ _ _ (by decide)) (xm_le ml_98 rfl) rfl ?_
              refine mt_98_1 hJ hov1 hov2 (d := d) (x1 := x1) (x2 := x3) K122.1 (by first | omega | decide) (by first | omega | decide) (fun r129 hh130 K131 => ?_)
              have br129 := xc_rng r129
              have K132 := xk_tr K122 K131 rfl
              refine xp_0 K132.1 (fun u133 u134 bu133 bu134 A135 => ?_)
              have e136 : u115 = u134 := xk_eqi (q := 9) K131 rfl A123 A135 rfl rfl
              subst e136
              refine xp_1 K132.1 (fun u137 u138 bu137 bu138 A139 => ?_)
              have e140 : u124 = u137 := xk_eqi (q := 5) K131 rfl A126 A139 rfl rfl
              subst e140
              show xw J ov (d + 2) 95 (104, [(5, .int 20), (4, .int 0), (0, .ref 0), (1, .int x1), (2, .int x2), (3, .int x3)], [.int r129], hh130) _
              refine xi_ireturn kc_95_104 mr_95 rfl ?_
              exact kk r129 hh130 K132
            · refine xi_cmf (pc' := 71) kc_95_68 rfl (xc_le_f (X := x3.toInt) (Y := 20) rfl (by decide) (by omega)) ?_
              refine xi_iload_n (pc' := 72) (x := x3) kc_95_71 rfl rfl ?_
              refine xi_bipush (pc' := 74) (v := 99) kc_95_72 rfl rfl ?_
              by_cases c141 : x3.toInt = 99
              · refine xi_cmt (pc' := 84) kc_95_74 rfl (xc_eq_t (X := x3.toInt) (Y := 99) rfl (by decide) (by omega)) ?_
                refine xi_aload_n (pc' := 85) (x := 0) kc_95_84 rfl rfl ?_
                refine xp_0 K.1 (fun u142 u143 bu142 bu143 A144 => ?_)
                refine xi_getfield (pc' := 88) (v := .ref 66) kc_95_85 rfl rfl rfl A144 rfl ?_
                refine xp_66 K.1 (fun u146 wl145 bu146 A147 => ?_)
                refine xi_virtual (mj := 91) (as := []) (st1 := []) (lv0 := [(0, .ref 66)]) kc_95_88 rfl rfl rfl rfl rfl A147 (Nat.le_of_ble_eq_true rfl) (hJ _ _ _ _ (by decide)) (xm_le ml_91 rfl) rfl ?_
                refine xi_aload_n (pc' := 1) (x := 66) kc_91_0 rfl rfl ?_
                refine xi_lconst (pc' := 2) (v := 0) kc_91_1 rfl rfl ?_
                refine xi_putfield (pc' := 5) (fs' := [.ref 1, .ref 67, .ref 70, .ref 71, .ref 72, .ref 73, .ref 74, .long 0, .int u146]) kc_91_2 rfl rfl rfl A147 rfl rfl rfl (Nat.le_of_ble_eq_true rfl) rfl (fun hh149 eh148 => ?_)
                have K150 := xk_pl (k := 7) (v := 0) K (xk_wf rfl) xD_66 A147 rfl eh148 rfl
                refine xi_return kc_91_5 mr_91 ?_
                show xw J ov (d + 2) 95 (91, [(5, .int 20), (4, .int 0), (0, .ref 0), (1, .int x1), (2, .int x2), (3, .int x3)], [], hh149) _
                refine xi_aload_n (pc' := 92) (x := 0) kc_95_91 rfl rfl ?_
                have A151 := ((eh148.2.1 0 (by decide)).trans A144)
                refine xi_getfield (pc' := 95) (v := .ref 1) kc_95_92 rfl rfl rfl A151 rfl ?_
                refine xi_iload_n (pc' := 96) (x := x2) kc_95_95 rfl rfl ?_
                refine xp_1 K150.1 (fun u152 u153 bu152 bu153 A154 => ?_)
                refine xi_virtual (mj := 97) (as := [.int x2]) (st1 := []) (lv0 := [(0, .ref 1), (1, .int x2)]) kc_95_96 rfl rfl rfl rfl rfl A154 (Nat.le_of_ble_eq_true rfl) (hJ _ _ _ _ (by decide)) (xm_le ml_97 rfl) rfl ?_
                refine xi_iload_n (pc' := 1) (x := x2) kc_97_0 rfl rfl ?_
                refine xi_ift (pc' := 11) kc_97_1 rfl (xc_ne_t (X := x2.toInt) (Y := 0) rfl (by decide) (by omega)) ?_
                refine xi_aload_n (pc' := 12) (x := 1) kc_97_11 rfl rfl ?_
                refine xi_getfield (pc' := 15) (v := .ref 8) kc_97_12 rfl rfl rfl A154 rfl ?_
                refine xi_areturn kc_97_15 (by rw [mr_97]; rfl) ?_
                show xw J ov (d + 2) 95 (99, [(5, .int 20), (4, .int 0), (0, .ref 0), (1, .int x1), (2, .int x2), (3, .int x3)], [.ref 8], hh149) _
                refine xi_iload_n (pc' := 100) (x := x1) kc_95_99 rfl rfl ?_
                refine xi_iload_n (pc' := 101) (x := x3) kc_95_100 rfl rfl ?_
                refine xp_8 K150.1 (fun u155 bu155 A156 => ?_)
                refine xi_virtual (mj := 98) (as := [.int x1, .int x3]) (st1 := []) (lv0 := [(0, .ref 8), (1, .int x1), (2, .int x3)]) kc_95_101 rfl rfl rfl rfl rfl A156 (Nat.le_of_ble_eq_true rfl) (hJ _ _ _ _ (by decide)) (xm_le ml_98 rfl) rfl ?_
                refine mt_98_1 hJ hov1 hov2 (d := d) (x1 := x1) (x2 := x3) K150.1 (by first | omega | decide) (by first | omega | decide) (fun r157 hh158 K159 => ?_)
                have br157 := xc_rng r157
                have K160 := xk_tr K150 K159 rfl
                refine xp_0 K160.1 (fun u161 u162 bu161 bu162 A163 => ?_)
                have e164 : u143 = u162 := xk_eqi (q := 9) K159 rfl A151 A163 rfl rfl
                subst e164
                refine xp_1 K160.1 (fun u165 u166 bu165 bu166 A167 => ?_)
                have e168 : u152 = u165 := xk_eqi (q := 5) K159 rfl A154 A167 rfl rfl
                subst e168
                show xw J ov (d + 2) 95 (104, [(5, .int 20), (4, .int 0), (0, .ref 0), (1, .int x1), (2, .int x2), (3, .int x3)], [.int r157], hh158) _
                refine xi_ireturn kc_95_104 mr_95 rfl ?_
                exact kk r157 hh158 K160
              · refine xi_cmf (pc' := 77) kc_95_74 rfl (xc_eq_f (X := x3.toInt) (Y := 99) rfl (by decide) (by omega)) ?_
                refine xi_aload_n (pc' := 78) (x := 0) kc_95_77 rfl rfl ?_
                refine xi_bipush (pc' := 80) (v := (-6)) kc_95_78 rfl rfl ?_
                refine xp_0 K.1 (fun u169 u170 bu169 bu170 A171 => ?_)
                refine xi_virtual (mj := 96) (as := [.int (-6)]) (st1 := []) (lv0 := [(0, .ref 0), (1, .int (-6))]) kc_95_80 rfl rfl rfl rfl rfl A171 (Nat.le_of_ble_eq_true rfl) (hJ _ _ _ _ (by decide)) (xm_le ml_96 rfl) rfl ?_
                refine xi_ldc_w (pc' := 3) (v := 1000000000) kc_96_0 rfl rfl ?_
                refine xi_aload_n (pc' := 4) (x := 0) kc_96_3 rfl rfl ?_
                refine xi_iload_n (pc' := 5) (x := (-6)) kc_96_4 rfl rfl ?_
                refine xi_virtual (mj := 90) (as := [.int (-6)]) (st1 := [.int 1000000000]) (lv0 := [(0, .ref 0), (1, .int (-6))]) kc_96_5 rfl rfl rfl rfl rfl A171 (Nat.le_of_ble_eq_true rfl) (hJ _ _ _ _ (by decide)) (xm_le ml_90 rfl) rfl ?_
                refine xi_iload_n (pc' := 1) (x := (-6)) kc_90_0 rfl rfl ?_
                refine xi_ineg (pc' := 2) (v := 6) kc_90_1 rfl rfl ?_
                refine xi_istore_n (pc' := 3) (lv' := [(2, .int 6), (0, .ref 0), (1, .int (-6))]) kc_90_2 rfl rfl (xm_lt ml_90 rfl) ?_
                refine xi_iload_n (pc' := 4) (x := 6) kc_90_3 rfl rfl ?_
                refine xi_iff (pc' := 7) kc_90_4 rfl rfl ?_
                refine xi_iload_n (pc' := 8) (x := 6) kc_90_7 rfl rfl ?_
                refine xi_aload_n (pc' := 9) (x := 0) kc_90_8 rfl rfl ?_
                refine xi_getfield (pc' := 12) (v := .ref 94) kc_90_9 rfl rfl rfl A171 rfl ?_
                refine xcps4 (xk_arr K.1 xD_94) (fun y172 A172 hy172 ry172 => ?_)
                refine xi_arraylength (pc' := 13) (n := 7) (v := 7) kc_90_12 rfl (xl_lenI (by decide) (by decide) A172 hy172) rfl ?_
                refine xi_cmf (pc' := 16) kc_90_13 rfl rfl ?_
                refine xi_aload_n (pc' := 17) (x := 0) kc_90_16 rfl rfl ?_
                refine xi_getfield (pc' := 20) (v := .ref 94) kc_90_17 rfl rfl rfl A171 rfl ?_
                refine xi_iload_n (pc' := 21) (x := 6) kc_90_20 rfl rfl ?_
                refine xi_dup2 (pc' := 22) kc_90_21 rfl ⟨rfl, rfl⟩ ?_
                refine xcps4 (xj_get hy172 ry172 (i := 6) (by decide) (by decide)) (fun v173 ev173 bv173 dv173 => ?_)
                refine xi_iaload (pc' := 23) (v := v173) kc_90_22 rfl A172 (by decide) rfl (xi_in (by decide) (by rw [hy172]; decide)) ev173 ?_
                refine xi_iconst (pc' := 24) (v := 1) kc_90_23 rfl rfl ?_
                refine xcps2 (α := Int32) ((v173 : Int32) + 1) (fun v174 ev174 => ?_)
                have rv174 := xc_rng v174
                refine xi_iadd (pc' := 25) (v := v174) kc_90_24 rfl ev174 ?_
                refine xcps4 (xj_set (v := v174) hy172 ry172 6 (by first | omega | decide) (by first | omega | decide)) (fun y175 s175 hy175 ry175 => ?_)
                refine xi_iastore (pc' := 26) (x' := y175) kc_90_25 rfl A172 rfl (xi_in (by decide) (by rw [hy172]; decide)) s175 (fun hh175 eh175 => ?_)
                have K176 := xk_pa K (xk_wa rfl) xD_94 hy175 ry175 eh175
                refine xi_iload_n (pc' := 27) (x := (-6)) kc_90_26 rfl rfl ?_
                refine xi_ireturn kc_90_27 mr_90 rfl ?_
                show xw J ov (d + 1) 96 (8, [(0, .ref 0), (1, .int (-6))], [.int (-6), .int 1000000000], hh175) _
                refine xi_isub (pc' := 9) (v := 1000000006) kc_96_8 rfl rfl ?_
                refine xi_ireturn kc_96_9 mr_96 rfl ?_
                show xw J ov (d + 2) 95 (83, [(5, .int 20), (4, .int 0), (0, .ref 0), (1, .int x1), (2, .int x2), (3, .int x3)], [.int 1000000006], hh175) _
                refine xi_ireturn kc_95_83 mr_95 rfl ?_
                have zc1000000006 : (1000000006 : Int32).toInt = 1000000006 := by decide
                exact kk 1000000006 hh175 K176
        · refine xi_cmf (pc' := 51) kc_95_48 rfl (xc_ge_f (X := x3.toInt) (Y := 0) rfl (by decide) (by omega)) ?_
          refine xi_aload_n (pc' := 52) (x := 0) kc_95_51 rfl rfl ?_
          refine xi_bipush (pc' := 54) (v := (-4)) kc_95_52 rfl rfl ?_
          refine xp_0 K.1 (fun u177 u178 bu177 bu178 A179 => ?_)
          refine xi_virtual (mj := 96) (as := [.int (-4)]) (st1 := []) (lv0 := [(0, .ref 0), (1, .int (-4))]) kc_95_54 rfl rfl rfl rfl rfl A179 (Nat.le_of_ble_eq_true rfl) (hJ _ _ _ _ (by decide)) (xm_le ml_96 rfl) rfl ?_
          refine xi_ldc_w (pc' := 3) (v := 1000000000) kc_96_0 rfl rfl ?_
          refine xi_aload_n (pc' := 4) (x := 0) kc_96_3 rfl rfl ?_
          refine xi_iload_n (pc' := 5) (x := (-4)) kc_96_4 rfl rfl ?_
          refine xi_virtual (mj := 90) (as := [.int (-4)]) (st1 := [.int 1000000000]) (lv0 := [(0, .ref 0), (1, .int (-4))]) kc_96_5 rfl rfl rfl rfl rfl A179 (Nat.le_of_ble_eq_true rfl) (hJ _ _ _ _ (by decide)) (xm_le ml_90 rfl) rfl ?_
          refine xi_iload_n (pc' := 1) (x := (-4)) kc_90_0 rfl rfl ?_
          refine xi_ineg (pc' := 2) (v := 4) kc_90_1 rfl rfl ?_
          refine xi_istore_n (pc' := 3) (lv' := [(2, .int 4), (0, .ref 0), (1, .int (-4))]) kc_90_2 rfl rfl (xm_lt ml_90 rfl) ?_
          refine xi_iload_n (pc' := 4) (x := 4) kc_90_3 rfl rfl ?_
          refine xi_iff (pc' := 7) kc_90_4 rfl rfl ?_
          refine xi_iload_n (pc' := 8) (x := 4) kc_90_7 rfl rfl ?_
          refine xi_aload_n (pc' := 9) (x := 0) kc_90_8 rfl rfl ?_
          refine xi_getfield (pc' := 12) (v := .ref 94) kc_90_9 rfl rfl rfl A179 rfl ?_
          refine xcps4 (xk_arr K.1 xD_94) (fun y180 A180 hy180 ry180 => ?_)
          refine xi_arraylength (pc' := 13) (n := 7) (v := 7) kc_90_12 rfl (xl_lenI (by decide) (by decide) A180 hy180) rfl ?_
          refine xi_cmf (pc' := 16) kc_90_13 rfl rfl ?_
          refine xi_aload_n (pc' := 17) (x := 0) kc_90_16 rfl rfl ?_
          refine xi_getfield (pc' := 20) (v := .ref 94) kc_90_17 rfl rfl rfl A179 rfl ?_
          refine xi_iload_n (pc' := 21) (x := 4) kc_90_20 rfl rfl ?_
          refine xi_dup2 (pc' := 22) kc_90_21 rfl ⟨rfl, rfl⟩ ?_
          refine xcps4 (xj_get hy180 ry180 (i := 4) (by decide) (by decide)) (fun v181 ev181 bv181 dv181 => ?_)
          refine xi_iaload (pc' := 23) (v := v181) kc_90_22 rfl A180 (by decide) rfl (xi_in (by decide) (by rw [hy180]; decide)) ev181 ?_
          refine xi_iconst (pc' := 24) (v := 1) kc_90_23 rfl rfl ?_
          refine xcps2 (α := Int32) ((v181 : Int32) + 1) (fun v182 ev182 => ?_)
          have rv182 := xc_rng v182
          refine xi_iadd (pc' := 25) (v := v182) kc_90_24 rfl ev182 ?_
          refine xcps4 (xj_set (v := v182) hy180 ry180 4 (by first | omega | decide) (by first | omega | decide)) (fun y183 s183 hy183 ry183 => ?_)
          refine xi_iastore (pc' := 26) (x' := y183) kc_90_25 rfl A180 rfl (xi_in (by decide) (by rw [hy180]; decide)) s183 (fun hh183 eh183 => ?_)
          have K184 := xk_pa K (xk_wa rfl) xD_94 hy183 ry183 eh183
          refine xi_iload_n (pc' := 27) (x := (-4)) kc_90_26 rfl rfl ?_
          refine xi_ireturn kc_90_27 mr_90 rfl ?_
          show xw J ov (d + 1) 96 (8, [(0, .ref 0), (1, .int (-4))], [.int (-4), .int 1000000000], hh183) _
          refine xi_isub (pc' := 9) (v := 1000000004) kc_96_8 rfl rfl ?_
          refine xi_ireturn kc_96_9 mr_96 rfl ?_
          show xw J ov (d + 2) 95 (57, [(5, .int 20), (4, .int 0), (0, .ref 0), (1, .int x1), (2, .int x2), (3, .int x3)], [.int 1000000004], hh183) _
          refine xi_ireturn kc_95_57 mr_95 rfl ?_
          have zc1000000004 : (1000000004 : Int32).toInt = 1000000004 := by decide
          exact kk 1000000004 hh183 K184
    · refine xi_cmf (pc' := 9) kc_95_6 rfl (xc_eq_f (X := x2.toInt) (Y := 1) rfl (by decide) (by omega)) ?_
      refine xi_aload_n (pc' := 10) (x := 0) kc_95_9 rfl rfl ?_
      refine xi_bipush (pc' := 12) (v := (-2)) kc_95_10 rfl rfl ?_
      refine xp_0 K.1 (fun u185 u186 bu185 bu186 A187 => ?_)
      refine xi_virtual (mj := 96) (as := [.int (-2)]) (st1 := []) (lv0 := [(0, .ref 0), (1, .int (-2))]) kc_95_12 rfl rfl rfl rfl rfl A187 (Nat.le_of_ble_eq_true rfl) (hJ _ _ _ _ (by decide)) (xm_le ml_96 rfl) rfl ?_
      refine xi_ldc_w (pc' := 3) (v := 1000000000) kc_96_0 rfl rfl ?_
      refine xi_aload_n (pc' := 4) (x := 0) kc_96_3 rfl rfl ?_
      refine xi_iload_n (pc' := 5) (x := (-2)) kc_96_4 rfl rfl ?_
      refine xi_virtual (mj := 90) (as := [.int (-2)]) (st1 := [.int 1000000000]) (lv0 := [(0, .ref 0), (1, .int (-2))]) kc_96_5 rfl rfl rfl rfl rfl A187 (Nat.le_of_ble_eq_true rfl) (hJ _ _ _ _ (by decide)) (xm_le ml_90 rfl) rfl ?_
      refine xi_iload_n (pc' := 1) (x := (-2)) kc_90_0 rfl rfl ?_
      refine xi_ineg (pc' := 2) (v := 2) kc_90_1 rfl rfl ?_
      refine xi_istore_n (pc' := 3) (lv' := [(2, .int 2), (0, .ref 0), (1, .int (-2))]) kc_90_2 rfl rfl (xm_lt ml_90 rfl) ?_
      refine xi_iload_n (pc' := 4) (x := 2) kc_90_3 rfl rfl ?_
      refine xi_iff (pc' := 7) kc_90_4 rfl rfl ?_
      refine xi_iload_n (pc' := 8) (x := 2) kc_90_7 rfl rfl ?_
      refine xi_aload_n (pc' := 9) (x := 0) kc_90_8 rfl rfl ?_
      refine xi_getfield (pc' := 12) (v := .ref 94) kc_90_9 rfl rfl rfl A187 rfl ?_
      refine xcps4 (xk_arr K.1 xD_94) (fun y188 A188 hy188 ry188 => ?_)
      refine xi_arraylength (pc' := 13) (n := 7) (v := 7) kc_90_12 rfl (xl_lenI (by decide) (by decide) A188 hy188) rfl ?_
      refine xi_cmf (pc' := 16) kc_90_13 rfl rfl ?_
      refine xi_aload_n (pc' := 17) (x := 0) kc_90_16 rfl rfl ?_
      refine xi_getfield (pc' := 20) (v := .ref 94) kc_90_17 rfl rfl rfl A187 rfl ?_
      refine xi_iload_n (pc' := 21) (x := 2) kc_90_20 rfl rfl ?_
      refine xi_dup2 (pc' := 22) kc_90_21 rfl ⟨rfl, rfl⟩ ?_
      refine xcps4 (xj_get hy188 ry188 (i := 2) (by decide) (by decide)) (fun v189 ev189 bv189 dv189 => ?_)
      refine xi_iaload (pc' := 23) (v := v189) kc_90_22 rfl A188 (by decide) rfl (xi_in (by decide) (by rw [hy188]; decide)) ev189 ?_
      refine xi_iconst (pc' := 24) (v := 1) kc_90_23 rfl rfl ?_
      refine xcps2 (α := Int32) ((v189 : Int32) + 1) (fun v190 ev190 => ?_)
      have rv190 := xc_rng v190
      refine xi_iadd (pc' := 25) (v := v190) kc_90_24 rfl ev190 ?_
      refine xcps4 (xj_set (v := v190) hy188 ry188 2 (by first | omega | decide) (by first | omega | decide)) (fun y191 s191 hy191 ry191 => ?_)
      refine xi_iastore (pc' := 26) (x' := y191) kc_90_25 rfl A188 rfl (xi_in (by decide) (by rw [hy188]; decide)) s191 (fun hh191 eh191 => ?_)
      have K192 := xk_pa K (xk_wa rfl) xD_94 hy191 ry191 eh191
      refine xi_iload_n (pc' := 27) (x := (-2)) kc_90_26 rfl rfl ?_
      refine xi_ireturn kc_90_27 mr_90 rfl ?_
      show xw J ov (d + 1) 96 (8, [(0, .ref 0), (1, .int (-2))], [.int (-2), .int 1000000000], hh191) _
      refine xi_isub (pc' := 9) (v := 1000000002) kc_96_8 rfl rfl ?_
      refine xi_ireturn kc_96_9 mr_96 rfl ?_
      show xw J ov (d + 2) 95 (15, [(0, .ref 0), (1, .int x1), (2, .int x2), (3, .int x3)], [.int 1000000002], hh191) _
      refine xi_ireturn kc_95_15 mr_95 rfl ?_
      have zc1000000002 : (1000000002 : Int32).toInt = 1000000002 := by decide
      exact kk 1000000002 hh191 K192
