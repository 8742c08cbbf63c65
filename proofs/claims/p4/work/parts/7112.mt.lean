set_option maxHeartbeats 4000000 in
theorem mt_95_0 {J : xe_J} {ov : List (List Int32)} (hJ : ∀ d mj as h, mj ≠ xe_loff → J d mj as h = none) (hov1 : ov[1]? = some [10, 0, 0, 0, 0, 0]) (hov2 : ov[2]? = some [99, 30, 50, 50, 1, 99999]) {d : Nat} {Q : Option Value → xe_H → Prop} {h : xe_H} {x1 : Int32} {x2 : Int32} {x3 : Int32} (T : xt h) (kk : (∀ (r : Int32) (h' : xe_H), xk [(0, 9), (115, 1), (83, 0), (123, 0), (124, 0), (5, 0), (8, 0)] h h' → Q (some (.int r)) h')) : xw J ov (d + 2) 95 (0, [(0, .ref 0), (1, .int x1), (2, .int x2), (3, .int x3)], [], h) Q := by
  have K : xk [(0, 9), (115, 1), (83, 0), (123, 0), (124, 0), (5, 0), (8, 0)] h h := xk_re T
  have rx1 := xc_rng x1
  have rx2 := xc_rng x2
  have rx3 := xc_rng x3
  refine xi_iload_n (pc' := 1) (x := x2) kc_95_0 rfl rfl ?_
  by_cases c1 : x2.toInt = 0
  · refine xi_ift (pc' := 16) kc_95_1 rfl (xc_eq_t (X := x2.toInt) (Y := 0) rfl (by decide) (by omega)) ?_
    refine xi_iload_n (pc' := 17) (x := x2) kc_95_16 rfl rfl ?_
    refine xi_iff (pc' := 20) kc_95_17 rfl (xc_ne_f (X := x2.toInt) (Y := 0) rfl (by decide) (by omega)) ?_
    refine xi_bipush (pc' := 22) (v := (-20)) kc_95_20 rfl rfl ?_
    refine xi_goto (pc' := 26) kc_95_22 rfl ?_
    refine xi_istore (pc' := 28) (lv' := [(4, .int (-20)), (0, .ref 0), (1, .int x1), (2, .int x2), (3, .int x3)]) kc_95_26 rfl rfl (xm_lt ml_95 rfl) ?_
    refine xi_iload_n (pc' := 29) (x := x2) kc_95_28 rfl rfl ?_
    refine xi_iff (pc' := 32) kc_95_29 rfl (xc_ne_f (X := x2.toInt) (Y := 0) rfl (by decide) (by omega)) ?_
    refine xi_bipush (pc' := 34) (v := 30) kc_95_32 rfl rfl ?_
    refine xi_goto (pc' := 39) kc_95_34 rfl ?_
    refine xi_istore (pc' := 41) (lv' := [(5, .int 30), (4, .int (-20)), (0, .ref 0), (1, .int x1), (2, .int x2), (3, .int x3)]) kc_95_39 rfl rfl (xm_lt ml_95 rfl) ?_
    refine xi_iload_n (pc' := 42) (x := x1) kc_95_41 rfl rfl ?_
    by_cases c2 : x1.toInt < 0
    · refine xi_ift (pc' := 51) kc_95_42 rfl (xc_lt_t (X := x1.toInt) (Y := 0) rfl (by decide) (by omega)) ?_
      refine xi_aload_n (pc' := 52) (x := 0) kc_95_51 rfl rfl ?_
      refine xi_bipush (pc' := 54) (v := (-4)) kc_95_52 rfl rfl ?_
      obtain ⟨u3, u4, bu3, bu4, A5⟩ := xq_0 K.1
      refine xi_virtual (mj := 96) (as := [.int (-4)]) (st1 := []) (lv0 := [(0, .ref 0), (1, .int (-4))]) kc_95_54 rfl rfl rfl rfl rfl A5 (Nat.le_of_ble_eq_true rfl) (hJ _ _ _ _ (by decide)) (xm_le ml_96 rfl) rfl ?_
      refine xi_ldc_w (pc' := 3) (v := 1000000000) kc_96_0 rfl rfl ?_
      refine xi_aload_n (pc' := 4) (x := 0) kc_96_3 rfl rfl ?_
      refine xi_iload_n (pc' := 5) (x := (-4)) kc_96_4 rfl rfl ?_
      refine xi_virtual (mj := 90) (as := [.int (-4)]) (st1 := [.int 1000000000]) (lv0 := [(0, .ref 0), (1, .int (-4))]) kc_96_5 rfl rfl rfl rfl rfl A5 (Nat.le_of_ble_eq_true rfl) (hJ _ _ _ _ (by decide)) (xm_le ml_90 rfl) rfl ?_
      refine xi_iload_n (pc' := 1) (x := (-4)) kc_90_0 rfl rfl ?_
      refine xi_ineg (pc' := 2) (v := 4) kc_90_1 rfl rfl ?_
      refine xi_istore_n (pc' := 3) (lv' := [(2, .int 4), (0, .ref 0), (1, .int (-4))]) kc_90_2 rfl rfl (xm_lt ml_90 rfl) ?_
      refine xi_iload_n (pc' := 4) (x := 4) kc_90_3 rfl rfl ?_
      refine xi_iff (pc' := 7) kc_90_4 rfl rfl ?_
      refine xi_iload_n (pc' := 8) (x := 4) kc_90_7 rfl rfl ?_
      refine xi_aload_n (pc' := 9) (x := 0) kc_90_8 rfl rfl ?_
      refine xi_getfield (pc' := 12) (v := .ref 94) kc_90_9 rfl rfl rfl A5 rfl ?_
      obtain ⟨y6, A6, hy6, ry6⟩ := xk_arr K.1 xD_94
      refine xi_arraylength (pc' := 13) (n := 7) (v := 7) kc_90_12 rfl (xl_lenI (by decide) (by decide) A6 hy6) rfl ?_
      refine xi_cmf (pc' := 16) kc_90_13 rfl rfl ?_
      refine xi_aload_n (pc' := 17) (x := 0) kc_90_16 rfl rfl ?_
      refine xi_getfield (pc' := 20) (v := .ref 94) kc_90_17 rfl rfl rfl A5 rfl ?_
      refine xi_iload_n (pc' := 21) (x := 4) kc_90_20 rfl rfl ?_
      refine xi_dup2 (pc' := 22) kc_90_21 rfl ⟨rfl, rfl⟩ ?_
      obtain ⟨v7, ev7, bv7, dv7⟩ := xj_get hy6 ry6 (i := 4) (by decide) (by decide)
      refine xi_iaload (pc' := 23) (v := v7) kc_90_22 rfl A6 (by decide) rfl (xi_in (by decide) (by rw [hy6]; decide)) ev7 ?_
      refine xi_iconst (pc' := 24) (v := 1) kc_90_23 rfl rfl ?_
      obtain ⟨v8, ev8⟩ : ∃ q : Int32, (v7 : Int32) + 1 = q := ⟨_, rfl⟩
      have rv8 := xc_rng v8
      refine xi_iadd (pc' := 25) (v := v8) kc_90_24 rfl ev8 ?_
      obtain ⟨y9, s9, hy9, ry9⟩ := xj_set (v := v8) hy6 ry6 4 (by first | omega | decide) (by first | omega | decide)
      refine xi_iastore (pc' := 26) (x' := y9) kc_90_25 rfl A6 rfl (xi_in (by decide) (by rw [hy6]; decide)) s9 (fun hh9 eh9 => ?_)
      have K10 := xk_pa K (xk_wa rfl) xD_94 hy9 ry9 eh9
      refine xi_iload_n (pc' := 27) (x := (-4)) kc_90_26 rfl rfl ?_
      refine xi_ireturn kc_90_27 mr_90 rfl ?_
      show xw J ov (d + 1) 96 (8, [(0, .ref 0), (1, .int (-4))], [.int (-4), .int 1000000000], hh9) _
      refine xi_isub (pc' := 9) (v := 1000000004) kc_96_8 rfl rfl ?_
      refine xi_ireturn kc_96_9 mr_96 rfl ?_
      show xw J ov (d + 2) 95 (57, [(5, .int 30), (4, .int (-20)), (0, .ref 0), (1, .int x1), (2, .int x2), (3, .int x3)], [.int 1000000004], hh9) _
      refine xi_ireturn kc_95_57 mr_95 rfl ?_
      have zc1000000004 : (1000000004 : Int32).toInt = 1000000004 := by decide
      exact kk 1000000004 hh9 K10
    · refine xi_iff (pc' := 45) kc_95_42 rfl (xc_lt_f (X := x1.toInt) (Y := 0) rfl (by decide) (by omega)) ?_
      refine xi_iload_n (pc' := 46) (x := x3) kc_95_45 rfl rfl ?_
      refine xi_iload (pc' := 48) (x := (-20)) kc_95_46 rfl rfl ?_
      by_cases c11 : (-20) ≤ x3.toInt
      · refine xi_cmt (pc' := 58) kc_95_48 rfl (xc_ge_t (X := x3.toInt) (Y := (-20)) rfl (by decide) (by omega)) ?_
        refine xi_iload_n (pc' := 59) (x := x1) kc_95_58 rfl rfl ?_
        refine xi_sipush (pc' := 62) (v := 600) kc_95_59 rfl rfl ?_
        by_cases c12 : 600 ≤ x1.toInt
        · refine xi_cmt (pc' := 77) kc_95_62 rfl (xc_ge_t (X := x1.toInt) (Y := 600) rfl (by decide) (by omega)) ?_
          refine xi_aload_n (pc' := 78) (x := 0) kc_95_77 rfl rfl ?_
          refine xi_bipush (pc' := 80) (v := (-6)) kc_95_78 rfl rfl ?_
          obtain ⟨u13, u14, bu13, bu14, A15⟩ := xq_0 K.1
          refine xi_virtual (mj := 96) (as := [.int (-6)]) (st1 := []) (lv0 := [(0, .ref 0), (1, .int (-6))]) kc_95_80 rfl rfl rfl rfl rfl A15 (Nat.le_of_ble_eq_true rfl) (hJ _ _ _ _ (by decide)) (xm_le ml_96 rfl) rfl ?_
          refine xi_ldc_w (pc' := 3) (v := 1000000000) kc_96_0 rfl rfl ?_
          refine xi_aload_n (pc' := 4) (x := 0) kc_96_3 rfl rfl ?_
          refine xi_iload_n (pc' := 5) (x := (-6)) kc_96_4 rfl rfl ?_
          refine xi_virtual (mj := 90) (as := [.int (-6)]) (st1 := [.int 1000000000]) (lv0 := [(0, .ref 0), (1, .int (-6))]) kc_96_5 rfl rfl rfl rfl rfl A15 (Nat.le_of_ble_eq_true rfl) (hJ _ _ _ _ (by decide)) (xm_le ml_90 rfl) rfl ?_
          refine xi_iload_n (pc' := 1) (x := (-6)) kc_90_0 rfl rfl ?_
          refine xi_ineg (pc' := 2) (v := 6) kc_90_1 rfl rfl ?_
          refine xi_istore_n (pc' := 3) (lv' := [(2, .int 6), (0, .ref 0), (1, .int (-6))]) kc_90_2 rfl rfl (xm_lt ml_90 rfl) ?_
          refine xi_iload_n (pc' := 4) (x := 6) kc_90_3 rfl rfl ?_
          refine xi_iff (pc' := 7) kc_90_4 rfl rfl ?_
          refine xi_iload_n (pc' := 8) (x := 6) kc_90_7 rfl rfl ?_
          refine xi_aload_n (pc' := 9) (x := 0) kc_90_8 rfl rfl ?_
          refine xi_getfield (pc' := 12) (v := .ref 94) kc_90_9 rfl rfl rfl A15 rfl ?_
          obtain ⟨y16, A16, hy16, ry16⟩ := xk_arr K.1 xD_94
          refine xi_arraylength (pc' := 13) (n := 7) (v := 7) kc_90_12 rfl (xl_lenI (by decide) (by decide) A16 hy16) rfl ?_
          refine xi_cmf (pc' := 16) kc_90_13 rfl rfl ?_
          refine xi_aload_n (pc' := 17) (x := 0) kc_90_16 rfl rfl ?_
          refine xi_getfield (pc' := 20) (v := .ref 94) kc_90_17 rfl rfl rfl A15 rfl ?_
          refine xi_iload_n (pc' := 21) (x := 6) kc_90_20 rfl rfl ?_
          refine xi_dup2 (pc' := 22) kc_90_21 rfl ⟨rfl, rfl⟩ ?_
          obtain ⟨v17, ev17, bv17, dv17⟩ := xj_get hy16 ry16 (i := 6) (by decide) (by decide)
          refine xi_iaload (pc' := 23) (v := v17) kc_90_22 rfl A16 (by decide) rfl (xi_in (by decide) (by rw [hy16]; decide)) ev17 ?_
          refine xi_iconst (pc' := 24) (v := 1) kc_90_23 rfl rfl ?_
          obtain ⟨v18, ev18⟩ : ∃ q : Int32, (v17 : Int32) + 1 = q := ⟨_, rfl⟩
          have rv18 := xc_rng v18
          refine xi_iadd (pc' := 25) (v := v18) kc_90_24 rfl ev18 ?_
          obtain ⟨y19, s19, hy19, ry19⟩ := xj_set (v := v18) hy16 ry16 6 (by first | omega | decide) (by first | omega | decide)
          refine xi_iastore (pc' := 26) (x' := y19) kc_90_25 rfl A16 rfl (xi_in (by decide) (by rw [hy16]; decide)) s19 (fun hh19 eh19 => ?_)
          have K20 := xk_pa K (xk_wa rfl) xD_94 hy19 ry19 eh19
          refine xi_iload_n (pc' := 27) (x := (-6)) kc_90_26 rfl rfl ?_
          refine xi_ireturn kc_90_27 mr_90 rfl ?_
          show xw J ov (d + 1) 96 (8, [(0, .ref 0), (1, .int (-6))], [.int (-6), .int 1000000000], hh19) _
          refine xi_isub (pc' := 9) (v := 1000000006) kc_96_8 rfl rfl ?_
          refine xi_ireturn kc_96_9 mr_96 rfl ?_
          show xw J ov (d + 2) 95 (83, [(5, .int 30), (4, .int (-20)), (0, .ref 0), (1, .int x1), (2, .int x2), (3, .int x3)], [.int 1000000006], hh19) _
          refine xi_ireturn kc_95_83 mr_95 rfl ?_
          have zc1000000006 : (1000000006 : Int32).toInt = 1000000006 := by decide
          exact kk 1000000006 hh19 K20
        · refine xi_cmf (pc' := 65) kc_95_62 rfl (xc_ge_f (X := x1.toInt) (Y := 600) rfl (by decide) (by omega)) ?_
          refine xi_iload_n (pc' := 66) (x := x3) kc_95_65 rfl rfl ?_
          refine xi_iload (pc' := 68) (x := 30) kc_95_66 rfl rfl ?_
          by_cases c21 : x3.toInt ≤ 30
          · refine xi_cmt (pc' := 84) kc_95_68 rfl (xc_le_t (X := x3.toInt) (Y := 30) rfl (by decide) (by omega)) ?_
            refine xi_aload_n (pc' := 85) (x := 0) kc_95_84 rfl rfl ?_
            obtain ⟨u22, u23, bu22, bu23, A24⟩ := xq_0 K.1
            refine xi_getfield (pc' := 88) (v := .ref 66) kc_95_85 rfl rfl rfl A24 rfl ?_
            obtain ⟨u26, wl25, bu26, A27⟩ := xq_66 K.1
            refine xi_virtual (mj := 91) (as := []) (st1 := []) (lv0 := [(0, .ref 66)]) kc_95_88 rfl rfl rfl rfl rfl A27 (Nat.le_of_ble_eq_true rfl) (hJ _ _ _ _ (by decide)) (xm_le ml_91 rfl) rfl ?_
            refine xi_aload_n (pc' := 1) (x := 66) kc_91_0 rfl rfl ?_
            refine xi_lconst (pc' := 2) (v := 0) kc_91_1 rfl rfl ?_
            refine xi_putfield (pc' := 5) (fs' := [.ref 1, .ref 67, .ref 70, .ref 71, .ref 72, .ref 73, .ref 74, .long 0, .int u26]) kc_91_2 rfl rfl rfl A27 rfl rfl rfl (Nat.le_of_ble_eq_true rfl) rfl (fun hh29 eh28 => ?_)
            have K30 := xk_pl (k := 7) (v := 0) K (xk_wf rfl) xD_66 A27 rfl eh28 rfl
            refine xi_return kc_91_5 mr_91 ?_
            show xw J ov (d + 2) 95 (91, [(5, .int 30), (4, .int (-20)), (0, .ref 0), (1, .int x1), (2, .int x2), (3, .int x3)], [], hh29) _
            refine xi_aload_n (pc' := 92) (x := 0) kc_95_91 rfl rfl ?_
            have A31 := ((eh28.2.1 0 (by decide)).trans A24)
            refine xi_getfield (pc' := 95) (v := .ref 1) kc_95_92 rfl rfl rfl A31 rfl ?_
            refine xi_iload_n (pc' := 96) (x := x2) kc_95_95 rfl rfl ?_
            obtain ⟨u32, u33, bu32, bu33, A34⟩ := xq_1 K30.1
            refine xi_virtual (mj := 97) (as := [.int x2]) (st1 := []) (lv0 := [(0, .ref 1), (1, .int x2)]) kc_95_96 rfl rfl rfl rfl rfl A34 (Nat.le_of_ble_eq_true rfl) (hJ _ _ _ _ (by decide)) (xm_le ml_97 rfl) rfl ?_
            refine xi_iload_n (pc' := 1) (x := x2) kc_97_0 rfl rfl ?_
            refine xi_iff (pc' := 4) kc_97_1 rfl (xc_ne_f (X := x2.toInt) (Y := 0) rfl (by decide) (by omega)) ?_
            refine xi_aload_n (pc' := 5) (x := 1) kc_97_4 rfl rfl ?_
            refine xi_getfield (pc' := 8) (v := .ref 5) kc_97_5 rfl rfl rfl A34 rfl ?_
            refine xi_goto (pc' := 15) kc_97_8 rfl ?_
            refine xi_areturn kc_97_15 (by rw [mr_97]; rfl) ?_
            show xw J ov (d + 2) 95 (99, [(5, .int 30), (4, .int (-20)), (0, .ref 0), (1, .int x1), (2, .int x2), (3, .int x3)], [.ref 5], hh29) _
            refine xi_iload_n (pc' := 100) (x := x1) kc_95_99 rfl rfl ?_
            refine xi_iload_n (pc' := 101) (x := x3) kc_95_100 rfl rfl ?_
            obtain ⟨u35, bu35, A36⟩ := xq_5 K30.1
            refine xi_virtual (mj := 98) (as := [.int x1, .int x3]) (st1 := []) (lv0 := [(0, .ref 5), (1, .int x1), (2, .int x3)]) kc_95_101 rfl rfl rfl rfl rfl A36 (Nat.le_of_ble_eq_true rfl) (hJ _ _ _ _ (by decide)) (xm_le ml_98 rfl) rfl ?_
            refine mt_98_0 hJ hov1 hov2 (d := d) (x1 := x1) (x2 := x3) K30.1 (by first | omega | decide) (by first | omega | decide) (fun r37 hh38 K39 => ?_)
            have br37 := xc_rng r37
            have K40 := xk_tr K30 K39 rfl
            obtain ⟨u41, u42, bu41, bu42, A43⟩ := xq_0 K40.1
            have e44 : u23 = u42 := xk_eqi (q := 9) K39 rfl A31 A43 rfl rfl
            subst e44
            obtain ⟨u45, bu45, A46⟩ := xq_5 K40.1
            have e47 : u35 = u45 := xk_eqi (q := 0) K39 rfl A36 A46 rfl rfl
            subst e47
            show xw J ov (d + 2) 95 (104, [(5, .int 30), (4, .int (-20)), (0, .ref 0), (1, .int x1), (2, .int x2), (3, .int x3)], [.int r37], hh38) _
            refine xi_ireturn kc_95_104 mr_95 rfl ?_
            exact kk r37 hh38 K40
          · refine xi_cmf (pc' := 71) kc_95_68 rfl (xc_le_f (X := x3.toInt) (Y := 30) rfl (by decide) (by omega)) ?_
            refine xi_iload_n (pc' := 72) (x := x3) kc_95_71 rfl rfl ?_
            refine xi_bipush (pc' := 74) (v := 99) kc_95_72 rfl rfl ?_
            by_cases c48 : x3.toInt = 99
            · refine xi_cmt (pc' := 84) kc_95_74 rfl (xc_eq_t (X := x3.toInt) (Y := 99) rfl (by decide) (by omega)) ?_
              refine xi_aload_n (pc' := 85) (x := 0) kc_95_84 rfl rfl ?_
              obtain ⟨u49, u50, bu49, bu50, A51⟩ := xq_0 K.1
              refine xi_getfield (pc' := 88) (v := .ref 66) kc_95_85 rfl rfl rfl A51 rfl ?_
              obtain ⟨u53, wl52, bu53, A54⟩ := xq_66 K.1
              refine xi_virtual (mj := 91) (as := []) (st1 := []) (lv0 := [(0, .ref 66)]) kc_95_88 rfl rfl rfl rfl rfl A54 (Nat.le_of_ble_eq_true rfl) (hJ _ _ _ _ (by decide)) (xm_le ml_91 rfl) rfl ?_
              refine xi_aload_n (pc' := 1) (x := 66) kc_91_0 rfl rfl ?_
              refine xi_lconst (pc' := 2) (v := 0) kc_91_1 rfl rfl ?_
              refine xi_putfield (pc' := 5) (fs' := [.ref 1, .ref 67, .ref 70, .ref 71, .ref 72, .ref 73, .ref 74, .long 0, .int u53]) kc_91_2 rfl rfl rfl A54 rfl rfl rfl (Nat.le_of_ble_eq_true rfl) rfl (fun hh56 eh55 => ?_)
              have K57 := xk_pl (k := 7) (v := 0) K (xk_wf rfl) xD_66 A54 rfl eh55 rfl
              refine xi_return kc_91_5 mr_91 ?_
              show xw J ov (d + 2) 95 (91, [(5, .int 30), (4, .int (-20)), (0, .ref 0), (1, .int x1), (2, .int x2), (3, .int x3)], [], hh56) _
              refine xi_aload_n (pc' := 92) (x := 0) kc_95_91 rfl rfl ?_
              have A58 := ((eh55.2.1 0 (by decide)).trans A51)
              refine xi_getfield (pc' := 95) (v := .ref 1) kc_95_92 rfl rfl rfl A58 rfl ?_
              refine xi_iload_n (pc' := 96) (x := x2) kc_95_95 rfl rfl ?_
              obtain ⟨u59, u60, bu59, bu60, A61⟩ := xq_1 K57.1
              refine xi_virtual (mj := 97) (as := [.int x2]) (st1 := []) (lv0 := [(0, .ref 1), (1, .int x2)]) kc_95_96 rfl rfl rfl rfl rfl A61 (Nat.le_of_ble_eq_true rfl) (hJ _ _ _ _ (by decide)) (xm_le ml_97 rfl) rfl ?_
              refine xi_iload_n (pc' := 1) (x := x2) kc_97_0 rfl rfl ?_
              refine xi_iff (pc' := 4) kc_97_1 rfl (xc_ne_f (X := x2.toInt) (Y := 0) rfl (by decide) (by omega)) ?_
              refine xi_aload_n (pc' := 5) (x := 1) kc_97_4 rfl rfl ?_
              refine xi_getfield (pc' := 8) (v := .ref 5) kc_97_5 rfl rfl rfl A61 rfl ?_
              refine xi_goto (pc' := 15) kc_97_8 rfl ?_
              refine xi_areturn kc_97_15 (by rw [mr_97]; rfl) ?_
              show xw J ov (d + 2) 95 (99, [(5, .int 30), (4, .int (-20)), (0, .ref 0), (1, .int x1), (2, .int x2), (3, .int x3)], [.ref 5], hh56) _
              refine xi_iload_n (pc' := 100) (x := x1) kc_95_99 rfl rfl ?_
              refine xi_iload_n (pc' := 101) (x := x3) kc_95_100 rfl rfl ?_
              obtain ⟨u62, bu62, A63⟩ := xq_5 K57.1
              refine xi_virtual (mj := 98) (as := [.int x1, .int x3]) (st1 := []) (lv0 := [(0, .ref 5), (1, .int x1), (2, .int x3)]) kc_95_101 rfl rfl rfl rfl rfl A63 (Nat.le_of_ble_eq_true rfl) (hJ _ _ _ _ (by decide)) (xm_le ml_98 rfl) rfl ?_
              refine mt_98_0 hJ hov1 hov2 (d := d) (x1 := x1) (x2 := x3) K57.1 (by first | omega | decide) (by first | omega | decide) (fun r64 hh65 K66 => ?_)
              have br64 := xc_rng r64
              have K67 := xk_tr K57 K66 rfl
              obtain ⟨u68, u69, bu68, bu69, A70⟩ := xq_0 K67.1
              have e71 : u50 = u69 := xk_eqi (q := 9) K66 rfl A58 A70 rfl rfl
              subst e71
              obtain ⟨u72, bu72, A73⟩ := xq_5 K67.1
              have e74 : u62 = u72 := xk_eqi (q := 0) K66 rfl A63 A73 rfl rfl
              subst e74
              show xw J ov (d + 2) 95 (104, [(5, .int 30), (4, .int (-20)), (0, .ref 0), (1, .int x1), (2, .int x2), (3, .int x3)], [.int r64], hh65) _
              refine xi_ireturn kc_95_104 mr_95 rfl ?_
              exact kk r64 hh65 K67
            · refine xi_cmf (pc' := 77) kc_95_74 rfl (xc_eq_f (X := x3.toInt) (Y := 99) rfl (by decide) (by omega)) ?_
              refine xi_aload_n (pc' := 78) (x := 0) kc_95_77 rfl rfl ?_
              refine xi_bipush (pc' := 80) (v := (-6)) kc_95_78 rfl rfl ?_
              obtain ⟨u75, u76, bu75, bu76, A77⟩ := xq_0 K.1
              refine xi_virtual (mj := 96) (as := [.int (-6)]) (st1 := []) (lv0 := [(0, .ref 0), (1, .int (-6))]) kc_95_80 rfl rfl rfl rfl rfl A77 (Nat.le_of_ble_eq_true rfl) (hJ _ _ _ _ (by decide)) (xm_le ml_96 rfl) rfl ?_
              refine xi_ldc_w (pc' := 3) (v := 1000000000) kc_96_0 rfl rfl ?_
              refine xi_aload_n (pc' := 4) (x := 0) kc_96_3 rfl rfl ?_
              refine xi_iload_n (pc' := 5) (x := (-6)) kc_96_4 rfl rfl ?_
              refine xi_virtual (mj := 90) (as := [.int (-6)]) (st1 := [.int 1000000000]) (lv0 := [(0, .ref 0), (1, .int (-6))]) kc_96_5 rfl rfl rfl rfl rfl A77 (Nat.le_of_ble_eq_true rfl) (hJ _ _ _ _ (by decide)) (xm_le ml_90 rfl) rfl ?_
              refine xi_iload_n (pc' := 1) (x := (-6)) kc_90_0 rfl rfl ?_
              refine xi_ineg (pc' := 2) (v := 6) kc_90_1 rfl rfl ?_
              refine xi_istore_n (pc' := 3) (lv' := [(2, .int 6), (0, .ref 0), (1, .int (-6))]) kc_90_2 rfl rfl (xm_lt ml_90 rfl) ?_
              refine xi_iload_n (pc' := 4) (x := 6) kc_90_3 rfl rfl ?_
              refine xi_iff (pc' := 7) kc_90_4 rfl rfl ?_
              refine xi_iload_n (pc' := 8) (x := 6) kc_90_7 rfl rfl ?_
              refine xi_aload_n (pc' := 9) (x := 0) kc_90_8 rfl rfl ?_
              refine xi_getfield (pc' := 12) (v := .ref 94) kc_90_9 rfl rfl rfl A77 rfl ?_
              obtain ⟨y78, A78, hy78, ry78⟩ := xk_arr K.1 xD_94
              refine xi_arraylength (pc' := 13) (n := 7) (v := 7) kc_90_12 rfl (xl_lenI (by decide) (by decide) A78 hy78) rfl ?_
              refine xi_cmf (pc' := 16) kc_90_13 rfl rfl ?_
              refine xi_aload_n (pc' := 17) (x := 0) kc_90_16 rfl rfl ?_
              refine xi_getfield (pc' := 20) (v := .ref 94) kc_90_17 rfl rfl rfl A77 rfl ?_
              refine xi_iload_n (pc' := 21) (x := 6) kc_90_20 rfl rfl ?_
              refine xi_dup2 (pc' := 22) kc_90_21 rfl ⟨rfl, rfl⟩ ?_
              obtain ⟨v79, ev79, bv79, dv79⟩ := xj_get hy78 ry78 (i := 6) (by decide) (by decide)
              refine xi_iaload (pc' := 23) (v := v79) kc_90_22 rfl A78 (by decide) rfl (xi_in (by decide) (by rw [hy78]; decide)) ev79 ?_
              refine xi_iconst (pc' := 24) (v := 1) kc_90_23 rfl rfl ?_
              obtain ⟨v80, ev80⟩ : ∃ q : Int32, (v79 : Int32) + 1 = q := ⟨_, rfl⟩
              have rv80 := xc_rng v80
              refine xi_iadd (pc' := 25) (v := v80) kc_90_24 rfl ev80 ?_
              obtain ⟨y81, s81, hy81, ry81⟩ := xj_set (v := v80) hy78 ry78 6 (by first | omega | decide) (by first | omega | decide)
              refine xi_iastore (pc' := 26) (x' := y81) kc_90_25 rfl A78 rfl (xi_in (by decide) (by rw [hy78]; decide)) s81 (fun hh81 eh81 => ?_)
              have K82 := xk_pa K (xk_wa rfl) xD_94 hy81 ry81 eh81
              refine xi_iload_n (pc' := 27) (x := (-6)) kc_90_26 rfl rfl ?_
              refine xi_ireturn kc_90_27 mr_90 rfl ?_
              show xw J ov (d + 1) 96 (8, [(0, .ref 0), (1, .int (-6))], [.int (-6), .int 1000000000], hh81) _
              refine xi_isub (pc' := 9) (v := 1000000006) kc_96_8 rfl rfl ?_
              refine xi_ireturn kc_96_9 mr_96 rfl ?_
              show xw J ov (d + 2) 95 (83, [(5, .int 30), (4, .int (-20)), (0, .ref 0), (1, .int x1), (2, .int x2), (3, .int x3)], [.int 1000000006], hh81) _
              refine xi_ireturn kc_95_83 mr_95 rfl ?_
              have zc1000000006 : (1000000006 : Int32).toInt = 1000000006 := by decide
              exact kk 1000000006 hh81 K82
      · refine xi_cmf (pc' := 51) kc_95_48 rfl (xc_ge_f (X := x3.toInt) (Y := (-20)) rfl (by decide) (by omega)) ?_
        refine xi_aload_n (pc' := 52) (x := 0) kc_95_51 rfl rfl ?_
        refine xi_bipush (pc' := 54) (v := (-4)) kc_95_52 rfl rfl ?_
        obtain ⟨u83, u84, bu83, bu84, A85⟩ := xq_0 K.1
        refine xi_virtual (mj := 96) (as := [.int (-4)]) (st1 := []) (lv0 := [(0, .ref 0), (1, .int (-4))]) kc_95_54 rfl rfl rfl rfl rfl A85 (Nat.le_of_ble_eq_true rfl) (hJ _ _ _ _ (by decide)) (xm_le ml_96 rfl) rfl ?_
        refine xi_ldc_w (pc' := 3) (v := 1000000000) kc_96_0 rfl rfl ?_
        refine xi_aload_n (pc' := 4) (x := 0) kc_96_3 rfl rfl ?_
        refine xi_iload_n (pc' := 5) (x := (-4)) kc_96_4 rfl rfl ?_
        refine xi_virtual (mj := 90) (as := [.int (-4)]) (st1 := [.int 1000000000]) (lv0 := [(0, .ref 0), (1, .int (-4))]) kc_96_5 rfl rfl rfl rfl rfl A85 (Nat.le_of_ble_eq_true rfl) (hJ _ _ _ _ (by decide)) (xm_le ml_90 rfl) rfl ?_
        refine xi_iload_n (pc' := 1) (x := (-4)) kc_90_0 rfl rfl ?_
        refine xi_ineg (pc' := 2) (v := 4) kc_90_1 rfl rfl ?_
        refine xi_istore_n (pc' := 3) (lv' := [(2, .int 4), (0, .ref 0), (1, .int (-4))]) kc_90_2 rfl rfl (xm_lt ml_90 rfl) ?_
        refine xi_iload_n (pc' := 4) (x := 4) kc_90_3 rfl rfl ?_
        refine xi_iff (pc' := 7) kc_90_4 rfl rfl ?_
        refine xi_iload_n (pc' := 8) (x := 4) kc_90_7 rfl rfl ?_
        refine xi_aload_n (pc' := 9) (x := 0) kc_90_8 rfl rfl ?_
        refine xi_getfield (pc' := 12) (v := .ref 94) kc_90_9 rfl rfl rfl A85 rfl ?_
        obtain ⟨y86, A86, hy86, ry86⟩ := xk_arr K.1 xD_94
        refine xi_arraylength (pc' := 13) (n := 7) (v := 7) kc_90_12 rfl (xl_lenI (by decide) (by decide) A86 hy86) rfl ?_
        refine xi_cmf (pc' := 16) kc_90_13 rfl rfl ?_
        refine xi_aload_n (pc' := 17) (x := 0) kc_90_16 rfl rfl ?_
        refine xi_getfield (pc' := 20) (v := .ref 94) kc_90_17 rfl rfl rfl A85 rfl ?_
        refine xi_iload_n (pc' := 21) (x := 4) kc_90_20 rfl rfl ?_
        refine xi_dup2 (pc' := 22) kc_90_21 rfl ⟨rfl, rfl⟩ ?_
        obtain ⟨v87, ev87, bv87, dv87⟩ := xj_get hy86 ry86 (i := 4) (by decide) (by decide)
        refine xi_iaload (pc' := 23) (v := v87) kc_90_22 rfl A86 (by decide) rfl (xi_in (by decide) (by rw [hy86]; decide)) ev87 ?_
        refine xi_iconst (pc' := 24) (v := 1) kc_90_23 rfl rfl ?_
        obtain ⟨v88, ev88⟩ : ∃ q : Int32, (v87 : Int32) + 1 = q := ⟨_, rfl⟩
        have rv88 := xc_rng v88
        refine xi_iadd (pc' := 25) (v := v88) kc_90_24 rfl ev88 ?_
        obtain ⟨y89, s89, hy89, ry89⟩ := xj_set (v := v88) hy86 ry86 4 (by first | omega | decide) (by first | omega | decide)
        refine xi_iastore (pc' := 26) (x' := y89) kc_90_25 rfl A86 rfl (xi_in (by decide) (by rw [hy86]; decide)) s89 (fun hh89 eh89 => ?_)
        have K90 := xk_pa K (xk_wa rfl) xD_94 hy89 ry89 eh89
        refine xi_iload_n (pc' := 27) (x := (-4)) kc_90_26 rfl rfl ?_
        refine xi_ireturn kc_90_27 mr_90 rfl ?_
        show xw J ov (d + 1) 96 (8, [(0, .ref 0), (1, .int (-4))], [.int (-4), .int 1000000000], hh89) _
        refine xi_isub (pc' := 9) (v := 1000000004) kc_96_8 rfl rfl ?_
        refine xi_ireturn kc_96_9 mr_96 rfl ?_
        show xw J ov (d + 2) 95 (57, [(5, .int 30), (4, .int (-20)), (0, .ref 0), (1, .int x1), (2, .int x2), (3, .int x3)], [.int 1000000004], hh89) _
        refine xi_ireturn kc_95_57 mr_95 rfl ?_
        have zc1000000004 : (1000000004 : Int32).toInt = 1000000004 := by decide
        exact kk 1000000004 hh89 K90
  · refine xi_iff (pc' := 4) kc_95_1 rfl (xc_eq_f (X := x2.toInt) (Y := 0) rfl (by decide) (by omega)) ?_
    refine xi_iload_n (pc' := 5) (x := x2) kc_95_4 rfl rfl ?_
    refine xi_iconst (pc' := 6) (v := 1) kc_95_5 rfl rfl ?_
    by_cases c91 : x2.toInt = 1
    · refine xi_cmt (pc' := 16) kc_95_6 rfl (xc_eq_t (X := x2.toInt) (Y := 1) rfl (by decide) (by omega)) ?_
      refine xi_iload_n (pc' := 17) (x := x2) kc_95_16 rfl rfl ?_
      refine xi_ift (pc' := 25) kc_95_17 rfl (xc_ne_t (X := x2.toInt) (Y := 0) rfl (by decide) (by omega)) ?_
      refine xi_iconst (pc' := 26) (v := 0) kc_95_25 rfl rfl ?_
      refine xi_istore (pc' := 28) (lv' := [(4, .int 0), (0, .ref 0), (1, .int x1), (2, .int x2), (3, .int x3)]) kc_95_26 rfl rfl (xm_lt ml_95 rfl) ?_
      refine xi_iload_n (pc' := 29) (x := x2) kc_95_28 rfl rfl ?_
      refine xi_ift (pc' := 37) kc_95_29 rfl (xc_ne_t (X := x2.toInt) (Y := 0) rfl (by decide) (by omega)) ?_
      refine xi_bipush (pc' := 39) (v := 20) kc_95_37 rfl rfl ?_
      refine xi_istore (pc' := 41) (lv' := [(5, .int 20), (4, .int 0), (0, .ref 0), (1, .int x1), (2, .int x2), (3, .int x3)]) kc_95_39 rfl rfl (xm_lt ml_95 rfl) ?_
      refine xi_iload_n (pc' := 42) (x := x1) kc_95_41 rfl rfl ?_
      by_cases c92 : x1.toInt < 0
      · refine xi_ift (pc' := 51) kc_95_42 rfl (xc_lt_t (X := x1.toInt) (Y := 0) rfl (by decide) (by omega)) ?_
        refine xi_aload_n (pc' := 52) (x := 0) kc_95_51 rfl rfl ?_
        refine xi_bipush (pc' := 54) (v := (-4)) kc_95_52 rfl rfl ?_
        obtain ⟨u93, u94, bu93, bu94, A95⟩ := xq_0 K.1
        refine xi_virtual (mj := 96) (as := [.int (-4)]) (st1 := []) (lv0 := [(0, .ref 0), (1, .int (-4))]) kc_95_54 rfl rfl rfl rfl rfl A95 (Nat.le_of_ble_eq_true rfl) (hJ _ _ _ _ (by decide)) (xm_le ml_96 rfl) rfl ?_
        refine xi_ldc_w (pc' := 3) (v := 1000000000) kc_96_0 rfl rfl ?_
        refine xi_aload_n (pc' := 4) (x := 0) kc_96_3 rfl rfl ?_
        refine xi_iload_n (pc' := 5) (x := (-4)) kc_96_4 rfl rfl ?_
        refine xi_virtual (mj := 90) (as := [.int (-4)]) (st1 := [.int 1000000000]) (lv0 := [(0, .ref 0), (1, .int (-4))]) kc_96_5 rfl rfl rfl rfl rfl A95 (Nat.le_of_ble_eq_true rfl) (hJ _ _ _ _ (by decide)) (xm_le ml_90 rfl) rfl ?_
        refine xi_iload_n (pc' := 1) (x := (-4)) kc_90_0 rfl rfl ?_
        refine xi_ineg (pc' := 2) (v := 4) kc_90_1 rfl rfl ?_
        refine xi_istore_n (pc' := 3) (lv' := [(2, .int 4), (0, .ref 0), (1, .int (-4))]) kc_90_2 rfl rfl (xm_lt ml_90 rfl) ?_
        refine xi_iload_n (pc' := 4) (x := 4) kc_90_3 rfl rfl ?_
        refine xi_iff (pc' := 7) kc_90_4 rfl rfl ?_
        refine xi_iload_n (pc' := 8) (x := 4) kc_90_7 rfl rfl ?_
        refine xi_aload_n (pc' := 9) (x := 0) kc_90_8 rfl rfl ?_
        refine xi_getfield (pc' := 12) (v := .ref 94) kc_90_9 rfl rfl rfl A95 rfl ?_
        obtain ⟨y96, A96, hy96, ry96⟩ := xk_arr K.1 xD_94
        refine xi_arraylength (pc' := 13) (n := 7) (v := 7) kc_90_12 rfl (xl_lenI (by decide) (by decide) A96 hy96) rfl ?_
        refine xi_cmf (pc' := 16) kc_90_13 rfl rfl ?_
        refine xi_aload_n (pc' := 17) (x := 0) kc_90_16 rfl rfl ?_
        refine xi_getfield (pc' := 20) (v := .ref 94) kc_90_17 rfl rfl rfl A95 rfl ?_
        refine xi_iload_n (pc' := 21) (x := 4) kc_90_20 rfl rfl ?_
        refine xi_dup2 (pc' := 22) kc_90_21 rfl ⟨rfl, rfl⟩ ?_
        obtain ⟨v97, ev97, bv97, dv97⟩ := xj_get hy96 ry96 (i := 4) (by decide) (by decide)
        refine xi_iaload (pc' := 23) (v := v97) kc_90_22 rfl A96 (by decide) rfl (xi_in (by decide) (by rw [hy96]; decide)) ev97 ?_
        refine xi_iconst (pc' := 24) (v := 1) kc_90_23 rfl rfl ?_
        obtain ⟨v98, ev98⟩ : ∃ q : Int32, (v97 : Int32) + 1 = q := ⟨_, rfl⟩
        have rv98 := xc_rng v98
        refine xi_iadd (pc' := 25) (v := v98) kc_90_24 rfl ev98 ?_
        obtain ⟨y99, s99, hy99, ry99⟩ := xj_set (v := v98) hy96 ry96 4 (by first | omega | decide) (by first | omega | decide)
        refine xi_iastore (pc' := 26) (x' := y99) kc_90_25 rfl A96 rfl (xi_in (by decide) (by rw [hy96]; decide)) s99 (fun hh99 eh99 => ?_)
        have K100 := xk_pa K (xk_wa rfl) xD_94 hy99 ry99 eh99
        refine xi_iload_n (pc' := 27) (x := (-4)) kc_90_26 rfl rfl ?_
        refine xi_ireturn kc_90_27 mr_90 rfl ?_
        show xw J ov (d + 1) 96 (8, [(0, .ref 0), (1, .int (-4))], [.int (-4), .int 1000000000], hh99) _
        refine xi_isub (pc' := 9) (v := 1000000004) kc_96_8 rfl rfl ?_
        refine xi_ireturn kc_96_9 mr_96 rfl ?_
        show xw J ov (d + 2) 95 (57, [(5, .int 20), (4, .int 0), (0, .ref 0), (1, .int x1), (2, .int x2), (3, .int x3)], [.int 1000000004], hh99) _
        refine xi_ireturn kc_95_57 mr_95 rfl ?_
        have zc1000000004 : (1000000004 : Int32).toInt = 1000000004 := by decide
        exact kk 1000000004 hh99 K100
      · refine xi_iff (pc' := 45) kc_95_42 rfl (xc_lt_f (X := x1.toInt) (Y := 0) rfl (by decide) (by omega)) ?_
        refine xi_iload_n (pc' := 46) (x := x3) kc_95_45 rfl rfl ?_
        refine xi_iload (pc' := 48) (x := 0) kc_95_46 rfl rfl ?_
        by_cases c101 : 0 ≤ x3.toInt
        · refine xi_cmt (pc' := 58) kc_95_48 rfl (xc_ge_t (X := x3.toInt) (Y := 0) rfl (by decide) (by omega)) ?_
          refine xi_iload_n (pc' := 59) (x := x1) kc_95_58 rfl rfl ?_
          refine xi_sipush (pc' := 62) (v := 600) kc_95_59 rfl rfl ?_
          by_cases c102 : 600 ≤ x1.toInt
          · refine xi_cmt (pc' := 77) kc_95_62 rfl (xc_ge_t (X := x1.toInt) (Y := 600) rfl (by decide) (by omega)) ?_
            refine xi_aload_n (pc' := 78) (x := 0) kc_95_77 rfl rfl ?_
            refine xi_bipush (pc' := 80) (v := (-6)) kc_95_78 rfl rfl ?_
            obtain ⟨u103, u104, bu103, bu104, A105⟩ := xq_0 K.1
            refine xi_virtual (mj := 96) (as := [.int (-6)]) (st1 := []) (lv0 := [(0, .ref 0), (1, .int (-6))]) kc_95_80 rfl rfl rfl rfl rfl A105 (Nat.le_of_ble_eq_true rfl) (hJ _ _ _ _ (by decide)) (xm_le ml_96 rfl) rfl ?_
            refine xi_ldc_w (pc' := 3) (v := 1000000000) kc_96_0 rfl rfl ?_
            refine xi_aload_n (pc' := 4) (x := 0) kc_96_3 rfl rfl ?_
            refine xi_iload_n (pc' := 5) (x := (-6)) kc_96_4 rfl rfl ?_
            refine xi_virtual (mj := 90) (as := [.int (-6)]) (st1 := [.int 1000000000]) (lv0 := [(0, .ref 0), (1, .int (-6))]) kc_96_5 rfl rfl rfl rfl rfl A105 (Nat.le_of_ble_eq_true rfl) (hJ _ _ _ _ (by decide)) (xm_le ml_90 rfl) rfl ?_
            refine xi_iload_n (pc' := 1) (x := (-6)) kc_90_0 rfl rfl ?_
            refine xi_ineg (pc' := 2) (v := 6) kc_90_1 rfl rfl ?_
            refine xi_istore_n (pc' := 3) (lv' := [(2, .int 6), (0, .ref 0), (1, .int (-6))]) kc_90_2 rfl rfl (xm_lt ml_90 rfl) ?_
            refine xi_iload_n (pc' := 4) (x := 6) kc_90_3 rfl rfl ?_
            refine xi_iff (pc' := 7) kc_90_4 rfl rfl ?_
            refine xi_iload_n (pc' := 8) (x := 6) kc_90_7 rfl rfl ?_
            refine xi_aload_n (pc' := 9) (x := 0) kc_90_8 rfl rfl ?_
            refine xi_getfield (pc' := 12) (v := .ref 94) kc_90_9 rfl rfl rfl A105 rfl ?_
            obtain ⟨y106, A106, hy106, ry106⟩ := xk_arr K.1 xD_94
            refine xi_arraylength (pc' := 13) (n := 7) (v := 7) kc_90_12 rfl (xl_lenI (by decide) (by decide) A106 hy106) rfl ?_
            refine xi_cmf (pc' := 16) kc_90_13 rfl rfl ?_
            refine xi_aload_n (pc' := 17) (x := 0) kc_90_16 rfl rfl ?_
            refine xi_getfield (pc' := 20) (v := .ref 94) kc_90_17 rfl rfl rfl A105 rfl ?_
            refine xi_iload_n (pc' := 21) (x := 6) kc_90_20 rfl rfl ?_
            refine xi_dup2 (pc' := 22) kc_90_21 rfl ⟨rfl, rfl⟩ ?_
            obtain ⟨v107, ev107, bv107, dv107⟩ := xj_get hy106 ry106 (i := 6) (by decide) (by decide)
            refine xi_iaload (pc' := 23) (v := v107) kc_90_22 rfl A106 (by decide) rfl (xi_in (by decide) (by rw [hy106]; decide)) ev107 ?_
            refine xi_iconst (pc' := 24) (v := 1) kc_90_23 rfl rfl ?_
            obtain ⟨v108, ev108⟩ : ∃ q : Int32, (v107 : Int32) + 1 = q := ⟨_, rfl⟩
            have rv108 := xc_rng v108
            refine xi_iadd (pc' := 25) (v := v108) kc_90_24 rfl ev108 ?_
            obtain ⟨y109, s109, hy109, ry109⟩ := xj_set (v := v108) hy106 ry106 6 (by first | omega | decide) (by first | omega | decide)
            refine xi_iastore (pc' := 26) (x' := y109) kc_90_25 rfl A106 rfl (xi_in (by decide) (by rw [hy106]; decide)) s109 (fun hh109 eh109 => ?_)
            have K110 := xk_pa K (xk_wa rfl) xD_94 hy109 ry109 eh109
            refine xi_iload_n (pc' := 27) (x := (-6)) kc_90_26 rfl rfl ?_
            refine xi_ireturn kc_90_27 mr_90 rfl ?_
            show xw J ov (d + 1) 96 (8, [(0, .ref 0), (1, .int (-6))], [.int (-6), .int 1000000000], hh109) _
            refine xi_isub (pc' := 9) (v := 1000000006) kc_96_8 rfl rfl ?_
            refine xi_ireturn kc_96_9 mr_96 rfl ?_
            show xw J ov (d + 2) 95 (83, [(5, .int 20), (4, .int 0), (0, .ref 0), (1, .int x1), (2, .int x2), (3, .int x3)], [.int 1000000006], hh109) _
            refine xi_ireturn kc_95_83 mr_95 rfl ?_
            have zc1000000006 : (1000000006 : Int32).toInt = 1000000006 := by decide
            exact kk 1000000006 hh109 K110
          · refine xi_cmf (pc' := 65) kc_95_62 rfl (xc_ge_f (X := x1.toInt) (Y := 600) rfl (by decide) (by omega)) ?_
            refine xi_iload_n (pc' := 66) (x := x3) kc_95_65 rfl rfl ?_
            refine xi_iload (pc' := 68) (x := 20) kc_95_66 rfl rfl ?_
            by_cases c111 : x3.toInt ≤ 20
            · refine xi_cmt (pc' := 84) kc_95_68 rfl (xc_le_t (X := x3.toInt) (Y := 20) rfl (by decide) (by omega)) ?_
              refine xi_aload_n (pc' := 85) (x := 0) kc_95_84 rfl rfl ?_
              obtain ⟨u112, u113, bu112, bu113, A114⟩ := xq_0 K.1
              refine xi_getfield (pc' := 88) (v := .ref 66) kc_95_85 rfl rfl rfl A114 rfl ?_
              obtain ⟨u116, wl115, bu116, A117⟩ := xq_66 K.1
              refine xi_virtual (mj := 91) (as := []) (st1 := []) (lv0 := [(0, .ref 66)]) kc_95_88 rfl rfl rfl rfl rfl A117 (Nat.le_of_ble_eq_true rfl) (hJ _ _ _ _ (by decide)) (xm_le ml_91 rfl) rfl ?_
              refine xi_aload_n (pc' := 1) (x := 66) kc_91_0 rfl rfl ?_
              refine xi_lconst (pc' := 2) (v := 0) kc_91_1 rfl rfl ?_
              refine xi_putfield (pc' := 5) (fs' := [.ref 1, .ref 67, .ref 70, .ref 71, .ref 72, .ref 73, .ref 74, .long 0, .int u116]) kc_91_2 rfl rfl rfl A117 rfl rfl rfl (Nat.le_of_ble_eq_true rfl) rfl (fun hh119 eh118 => ?_)
              have K120 := xk_pl (k := 7) (v := 0) K (xk_wf rfl) xD_66 A117 rfl eh118 rfl
              refine xi_return kc_91_5 mr_91 ?_
              show xw J ov (d + 2) 95 (91, [(5, .int 20), (4, .int 0), (0, .ref 0), (1, .int x1), (2, .int x2), (3, .int x3)], [], hh119) _
              refine xi_aload_n (pc' := 92) (x := 0) kc_95_91 rfl rfl ?_
              have A121 := ((eh118.2.1 0 (by decide)).trans A114)
              refine xi_getfield (pc' := 95) (v := .ref 1) kc_95_92 rfl rfl rfl A121 rfl ?_
              refine xi_iload_n (pc' := 96) (x := x2) kc_95_95 rfl rfl ?_
              obtain ⟨u122, u123, bu122, bu123, A124⟩ := xq_1 K120.1
              refine xi_virtual (mj := 97) (as := [.int x2]) (st1 := []) (lv0 := [(0, .ref 1), (1, .int x2)]) kc_95_96 rfl rfl rfl rfl rfl A124 (Nat.le_of_ble_eq_true rfl) (hJ _ _ _ _ (by decide)) (xm_le ml_97 rfl) rfl ?_
              refine xi_iload_n (pc' := 1) (x := x2) kc_97_0 rfl rfl ?_
              refine xi_ift (pc' := 11) kc_97_1 rfl (xc_ne_t (X := x2.toInt) (Y := 0) rfl (by decide) (by omega)) ?_
              refine xi_aload_n (pc' := 12) (x := 1) kc_97_11 rfl rfl ?_
              refine xi_getfield (pc' := 15) (v := .ref 8) kc_97_12 rfl rfl rfl A124 rfl ?_
              refine xi_areturn kc_97_15 (by rw [mr_97]; rfl) ?_
              show xw J ov (d + 2) 95 (99, [(5, .int 20), (4, .int 0), (0, .ref 0), (1, .int x1), (2, .int x2), (3, .int x3)], [.ref 8], hh119) _
              refine xi_iload_n (pc' := 100) (x := x1) kc_95_99 rfl rfl ?_
              refine xi_iload_n (pc' := 101) (x := x3) kc_95_100 rfl rfl ?_
              obtain ⟨u125, bu125, A126⟩ := xq_8 K120.1
              refine xi_virtual (mj := 98) (as := [.int x1, .int x3]) (st1 := []) (lv0 := [(0, .ref 8), (1, .int x1), (2, .int x3)]) kc_95_101 rfl rfl rfl rfl rfl A126 (Nat.le_of_ble_eq_true rfl) (hJ _ _ _ _ (by decide)) (xm_le ml_98 rfl) rfl ?_
              refine mt_98_1 hJ hov1 hov2 (d := d) (x1 := x1) (x2 := x3) K120.1 (by first | omega | decide) (by first | omega | decide) (fun r127 hh128 K129 => ?_)
              have br127 := xc_rng r127
              have K130 := xk_tr K120 K129 rfl
              obtain ⟨u131, u132, bu131, bu132, A133⟩ := xq_0 K130.1
              have e134 : u113 = u132 := xk_eqi (q := 9) K129 rfl A121 A133 rfl rfl
              subst e134
              obtain ⟨u135, bu135, A136⟩ := xq_8 K130.1
              have e137 : u125 = u135 := xk_eqi (q := 0) K129 rfl A126 A136 rfl rfl
              subst e137
              show xw J ov (d + 2) 95 (104, [(5, .int 20), (4, .int 0), (0, .ref 0), (1, .int x1), (2, .int x2), (3, .int x3)], [.int r127], hh128) _
              refine xi_ireturn kc_95_104 mr_95 rfl ?_
              exact kk r127 hh128 K130
            · refine xi_cmf (pc' := 71) kc_95_68 rfl (xc_le_f (X := x3.toInt) (Y := 20) rfl (by decide) (by omega)) ?_
              refine xi_iload_n (pc' := 72) (x := x3) kc_95_71 rfl rfl ?_
              refine xi_bipush (pc' := 74) (v := 99) kc_95_72 rfl rfl ?_
              by_cases c138 : x3.toInt = 99
              · refine xi_cmt (pc' := 84) kc_95_74 rfl (xc_eq_t (X := x3.toInt) (Y := 99) rfl (by decide) (by omega)) ?_
                refine xi_aload_n (pc' := 85) (x := 0) kc_95_84 rfl rfl ?_
                obtain ⟨u139, u140, bu139, bu140, A141⟩ := xq_0 K.1
                refine xi_getfield (pc' := 88) (v := .ref 66) kc_95_85 rfl rfl rfl A141 rfl ?_
                obtain ⟨u143, wl142, bu143, A144⟩ := xq_66 K.1
                refine xi_virtual (mj := 91) (as := []) (st1 := []) (lv0 := [(0, .ref 66)]) kc_95_88 rfl rfl rfl rfl rfl A144 (Nat.le_of_ble_eq_true rfl) (hJ _ _ _ _ (by decide)) (xm_le ml_91 rfl) rfl ?_
                refine xi_aload_n (pc' := 1) (x := 66) kc_91_0 rfl rfl ?_
                refine xi_lconst (pc' := 2) (v := 0) kc_91_1 rfl rfl ?_
                refine xi_putfield (pc' := 5) (fs' := [.ref 1, .ref 67, .ref 70, .ref 71, .ref 72, .ref 73, .ref 74, .long 0, .int u143]) kc_91_2 rfl rfl rfl A144 rfl rfl rfl (Nat.le_of_ble_eq_true rfl) rfl (fun hh146 eh145 => ?_)
                have K147 := xk_pl (k := 7) (v := 0) K (xk_wf rfl) xD_66 A144 rfl eh145 rfl
                refine xi_return kc_91_5 mr_91 ?_
                show xw J ov (d + 2) 95 (91, [(5, .int 20), (4, .int 0), (0, .ref 0), (1, .int x1), (2, .int x2), (3, .int x3)], [], hh146) _
                refine xi_aload_n (pc' := 92) (x := 0) kc_95_91 rfl rfl ?_
                have A148 := ((eh145.2.1 0 (by decide)).trans A141)
                refine xi_getfield (pc' := 95) (v := .ref 1) kc_95_92 rfl rfl rfl A148 rfl ?_
                refine xi_iload_n (pc' := 96) (x := x2) kc_95_95 rfl rfl ?_
                obtain ⟨u149, u150, bu149, bu150, A151⟩ := xq_1 K147.1
                refine xi_virtual (mj := 97) (as := [.int x2]) (st1 := []) (lv0 := [(0, .ref 1), (1, .int x2)]) kc_95_96 rfl rfl rfl rfl rfl A151 (Nat.le_of_ble_eq_true rfl) (hJ _ _ _ _ (by decide)) (xm_le ml_97 rfl) rfl ?_
                refine xi_iload_n (pc' := 1) (x := x2) kc_97_0 rfl rfl ?_
                refine xi_ift (pc' := 11) kc_97_1 rfl (xc_ne_t (X := x2.toInt) (Y := 0) rfl (by decide) (by omega)) ?_
                refine xi_aload_n (pc' := 12) (x := 1) kc_97_11 rfl rfl ?_
                refine xi_getfield (pc' := 15) (v := .ref 8) kc_97_12 rfl rfl rfl A151 rfl ?_
                refine xi_areturn kc_97_15 (by rw [mr_97]; rfl) ?_
                show xw J ov (d + 2) 95 (99, [(5, .int 20), (4, .int 0), (0, .ref 0), (1, .int x1), (2, .int x2), (3, .int x3)], [.ref 8], hh146) _
                refine xi_iload_n (pc' := 100) (x := x1) kc_95_99 rfl rfl ?_
                refine xi_iload_n (pc' := 101) (x := x3) kc_95_100 rfl rfl ?_
                obtain ⟨u152, bu152, A153⟩ := xq_8 K147.1
                refine xi_virtual (mj := 98) (as := [.int x1, .int x3]) (st1 := []) (lv0 := [(0, .ref 8), (1, .int x1), (2, .int x3)]) kc_95_101 rfl rfl rfl rfl rfl A153 (Nat.le_of_ble_eq_true rfl) (hJ _ _ _ _ (by decide)) (xm_le ml_98 rfl) rfl ?_
                refine mt_98_1 hJ hov1 hov2 (d := d) (x1 := x1) (x2 := x3) K147.1 (by first | omega | decide) (by first | omega | decide) (fun r154 hh155 K156 => ?_)
                have br154 := xc_rng r154
                have K157 := xk_tr K147 K156 rfl
                obtain ⟨u158, u159, bu158, bu159, A160⟩ := xq_0 K157.1
                have e161 : u140 = u159 := xk_eqi (q := 9) K156 rfl A148 A160 rfl rfl
                subst e161
                obtain ⟨u162, bu162, A163⟩ := xq_8 K157.1
                have e164 : u152 = u162 := xk_eqi (q := 0) K156 rfl A153 A163 rfl rfl
                subst e164
                show xw J ov (d + 2) 95 (104, [(5, .int 20), (4, .int 0), (0, .ref 0), (1, .int x1), (2, .int x2), (3, .int x3)], [.int r154], hh155) _
                refine xi_ireturn kc_95_104 mr_95 rfl ?_
                exact kk r154 hh155 K157
              · refine xi_cmf (pc' := 77) kc_95_74 rfl (xc_eq_f (X := x3.toInt) (Y := 99) rfl (by decide) (by omega)) ?_
                refine xi_aload_n (pc' := 78) (x := 0) kc_95_77 rfl rfl ?_
                refine xi_bipush (pc' := 80) (v := (-6)) kc_95_78 rfl rfl ?_
                obtain ⟨u165, u166, bu165, bu166, A167⟩ := xq_0 K.1
                refine xi_virtual (mj := 96) (as := [.int (-6)]) (st1 := []) (lv0 := [(0, .ref 0), (1, .int (-6))]) kc_95_80 rfl rfl rfl rfl rfl A167 (Nat.le_of_ble_eq_true rfl) (hJ _ _ _ _ (by decide)) (xm_le ml_96 rfl) rfl ?_
                refine xi_ldc_w (pc' := 3) (v := 1000000000) kc_96_0 rfl rfl ?_
                refine xi_aload_n (pc' := 4) (x := 0) kc_96_3 rfl rfl ?_
                refine xi_iload_n (pc' := 5) (x := (-6)) kc_96_4 rfl rfl ?_
                refine xi_virtual (mj := 90) (as := [.int (-6)]) (st1 := [.int 1000000000]) (lv0 := [(0, .ref 0), (1, .int (-6))]) kc_96_5 rfl rfl rfl rfl rfl A167 (Nat.le_of_ble_eq_true rfl) (hJ _ _ _ _ (by decide)) (xm_le ml_90 rfl) rfl ?_
                refine xi_iload_n (pc' := 1) (x := (-6)) kc_90_0 rfl rfl ?_
                refine xi_ineg (pc' := 2) (v := 6) kc_90_1 rfl rfl ?_
                refine xi_istore_n (pc' := 3) (lv' := [(2, .int 6), (0, .ref 0), (1, .int (-6))]) kc_90_2 rfl rfl (xm_lt ml_90 rfl) ?_
                refine xi_iload_n (pc' := 4) (x := 6) kc_90_3 rfl rfl ?_
                refine xi_iff (pc' := 7) kc_90_4 rfl rfl ?_
                refine xi_iload_n (pc' := 8) (x := 6) kc_90_7 rfl rfl ?_
                refine xi_aload_n (pc' := 9) (x := 0) kc_90_8 rfl rfl ?_
                refine xi_getfield (pc' := 12) (v := .ref 94) kc_90_9 rfl rfl rfl A167 rfl ?_
                obtain ⟨y168, A168, hy168, ry168⟩ := xk_arr K.1 xD_94
                refine xi_arraylength (pc' := 13) (n := 7) (v := 7) kc_90_12 rfl (xl_lenI (by decide) (by decide) A168 hy168) rfl ?_
                refine xi_cmf (pc' := 16) kc_90_13 rfl rfl ?_
                refine xi_aload_n (pc' := 17) (x := 0) kc_90_16 rfl rfl ?_
                refine xi_getfield (pc' := 20) (v := .ref 94) kc_90_17 rfl rfl rfl A167 rfl ?_
                refine xi_iload_n (pc' := 21) (x := 6) kc_90_20 rfl rfl ?_
                refine xi_dup2 (pc' := 22) kc_90_21 rfl ⟨rfl, rfl⟩ ?_
                obtain ⟨v169, ev169, bv169, dv169⟩ := xj_get hy168 ry168 (i := 6) (by decide) (by decide)
                refine xi_iaload (pc' := 23) (v := v169) kc_90_22 rfl A168 (by decide) rfl (xi_in (by decide) (by rw [hy168]; decide)) ev169 ?_
                refine xi_iconst (pc' := 24) (v := 1) kc_90_23 rfl rfl ?_
                obtain ⟨v170, ev170⟩ : ∃ q : Int32, (v169 : Int32) + 1 = q := ⟨_, rfl⟩
                have rv170 := xc_rng v170
                refine xi_iadd (pc' := 25) (v := v170) kc_90_24 rfl ev170 ?_
                obtain ⟨y171, s171, hy171, ry171⟩ := xj_set (v := v170) hy168 ry168 6 (by first | omega | decide) (by first | omega | decide)
                refine xi_iastore (pc' := 26) (x' := y171) kc_90_25 rfl A168 rfl (xi_in (by decide) (by rw [hy168]; decide)) s171 (fun hh171 eh171 => ?_)
                have K172 := xk_pa K (xk_wa rfl) xD_94 hy171 ry171 eh171
                refine xi_iload_n (pc' := 27) (x := (-6)) kc_90_26 rfl rfl ?_
                refine xi_ireturn kc_90_27 mr_90 rfl ?_
                show xw J ov (d + 1) 96 (8, [(0, .ref 0), (1, .int (-6))], [.int (-6), .int 1000000000], hh171) _
                refine xi_isub (pc' := 9) (v := 1000000006) kc_96_8 rfl rfl ?_
                refine xi_ireturn kc_96_9 mr_96 rfl ?_
                show xw J ov (d + 2) 95 (83, [(5, .int 20), (4, .int 0), (0, .ref 0), (1, .int x1), (2, .int x2), (3, .int x3)], [.int 1000000006], hh171) _
                refine xi_ireturn kc_95_83 mr_95 rfl ?_
                have zc1000000006 : (1000000006 : Int32).toInt = 1000000006 := by decide
                exact kk 1000000006 hh171 K172
        · refine xi_cmf (pc' := 51) kc_95_48 rfl (xc_ge_f (X := x3.toInt) (Y := 0) rfl (by decide) (by omega)) ?_
          refine xi_aload_n (pc' := 52) (x := 0) kc_95_51 rfl rfl ?_
          refine xi_bipush (pc' := 54) (v := (-4)) kc_95_52 rfl rfl ?_
          obtain ⟨u173, u174, bu173, bu174, A175⟩ := xq_0 K.1
          refine xi_virtual (mj := 96) (as := [.int (-4)]) (st1 := []) (lv0 := [(0, .ref 0), (1, .int (-4))]) kc_95_54 rfl rfl rfl rfl rfl A175 (Nat.le_of_ble_eq_true rfl) (hJ _ _ _ _ (by decide)) (xm_le ml_96 rfl) rfl ?_
          refine xi_ldc_w (pc' := 3) (v := 1000000000) kc_96_0 rfl rfl ?_
          refine xi_aload_n (pc' := 4) (x := 0) kc_96_3 rfl rfl ?_
          refine xi_iload_n (pc' := 5) (x := (-4)) kc_96_4 rfl rfl ?_
          refine xi_virtual (mj := 90) (as := [.int (-4)]) (st1 := [.int 1000000000]) (lv0 := [(0, .ref 0), (1, .int (-4))]) kc_96_5 rfl rfl rfl rfl rfl A175 (Nat.le_of_ble_eq_true rfl) (hJ _ _ _ _ (by decide)) (xm_le ml_90 rfl) rfl ?_
          refine xi_iload_n (pc' := 1) (x := (-4)) kc_90_0 rfl rfl ?_
          refine xi_ineg (pc' := 2) (v := 4) kc_90_1 rfl rfl ?_
          refine xi_istore_n (pc' := 3) (lv' := [(2, .int 4), (0, .ref 0), (1, .int (-4))]) kc_90_2 rfl rfl (xm_lt ml_90 rfl) ?_
          refine xi_iload_n (pc' := 4) (x := 4) kc_90_3 rfl rfl ?_
          refine xi_iff (pc' := 7) kc_90_4 rfl rfl ?_
          refine xi_iload_n (pc' := 8) (x := 4) kc_90_7 rfl rfl ?_
          refine xi_aload_n (pc' := 9) (x := 0) kc_90_8 rfl rfl ?_
          refine xi_getfield (pc' := 12) (v := .ref 94) kc_90_9 rfl rfl rfl A175 rfl ?_
          obtain ⟨y176, A176, hy176, ry176⟩ := xk_arr K.1 xD_94
          refine xi_arraylength (pc' := 13) (n := 7) (v := 7) kc_90_12 rfl (xl_lenI (by decide) (by decide) A176 hy176) rfl ?_
          refine xi_cmf (pc' := 16) kc_90_13 rfl rfl ?_
          refine xi_aload_n (pc' := 17) (x := 0) kc_90_16 rfl rfl ?_
          refine xi_getfield (pc' := 20) (v := .ref 94) kc_90_17 rfl rfl rfl A175 rfl ?_
          refine xi_iload_n (pc' := 21) (x := 4) kc_90_20 rfl rfl ?_
          refine xi_dup2 (pc' := 22) kc_90_21 rfl ⟨rfl, rfl⟩ ?_
          obtain ⟨v177, ev177, bv177, dv177⟩ := xj_get hy176 ry176 (i := 4) (by decide) (by decide)
          refine xi_iaload (pc' := 23) (v := v177) kc_90_22 rfl A176 (by decide) rfl (xi_in (by decide) (by rw [hy176]; decide)) ev177 ?_
          refine xi_iconst (pc' := 24) (v := 1) kc_90_23 rfl rfl ?_
          obtain ⟨v178, ev178⟩ : ∃ q : Int32, (v177 : Int32) + 1 = q := ⟨_, rfl⟩
          have rv178 := xc_rng v178
          refine xi_iadd (pc' := 25) (v := v178) kc_90_24 rfl ev178 ?_
          obtain ⟨y179, s179, hy179, ry179⟩ := xj_set (v := v178) hy176 ry176 4 (by first | omega | decide) (by first | omega | decide)
          refine xi_iastore (pc' := 26) (x' := y179) kc_90_25 rfl A176 rfl (xi_in (by decide) (by rw [hy176]; decide)) s179 (fun hh179 eh179 => ?_)
          have K180 := xk_pa K (xk_wa rfl) xD_94 hy179 ry179 eh179
          refine xi_iload_n (pc' := 27) (x := (-4)) kc_90_26 rfl rfl ?_
          refine xi_ireturn kc_90_27 mr_90 rfl ?_
          show xw J ov (d + 1) 96 (8, [(0, .ref 0), (1, .int (-4))], [.int (-4), .int 1000000000], hh179) _
          refine xi_isub (pc' := 9) (v := 1000000004) kc_96_8 rfl rfl ?_
          refine xi_ireturn kc_96_9 mr_96 rfl ?_
          show xw J ov (d + 2) 95 (57, [(5, .int 20), (4, .int 0), (0, .ref 0), (1, .int x1), (2, .int x2), (3, .int x3)], [.int 1000000004], hh179) _
          refine xi_ireturn kc_95_57 mr_95 rfl ?_
          have zc1000000004 : (1000000004 : Int32).toInt = 1000000004 := by decide
          exact kk 1000000004 hh179 K180
    · refine xi_cmf (pc' := 9) kc_95_6 rfl (xc_eq_f (X := x2.toInt) (Y := 1) rfl (by decide) (by omega)) ?_
      refine xi_aload_n (pc' := 10) (x := 0) kc_95_9 rfl rfl ?_
      refine xi_bipush (pc' := 12) (v := (-2)) kc_95_10 rfl rfl ?_
      obtain ⟨u181, u182, bu181, bu182, A183⟩ := xq_0 K.1
      refine xi_virtual (mj := 96) (as := [.int (-2)]) (st1 := []) (lv0 := [(0, .ref 0), (1, .int (-2))]) kc_95_12 rfl rfl rfl rfl rfl A183 (Nat.le_of_ble_eq_true rfl) (hJ _ _ _ _ (by decide)) (xm_le ml_96 rfl) rfl ?_
      refine xi_ldc_w (pc' := 3) (v := 1000000000) kc_96_0 rfl rfl ?_
      refine xi_aload_n (pc' := 4) (x := 0) kc_96_3 rfl rfl ?_
      refine xi_iload_n (pc' := 5) (x := (-2)) kc_96_4 rfl rfl ?_
      refine xi_virtual (mj := 90) (as := [.int (-2)]) (st1 := [.int 1000000000]) (lv0 := [(0, .ref 0), (1, .int (-2))]) kc_96_5 rfl rfl rfl rfl rfl A183 (Nat.le_of_ble_eq_true rfl) (hJ _ _ _ _ (by decide)) (xm_le ml_90 rfl) rfl ?_
      refine xi_iload_n (pc' := 1) (x := (-2)) kc_90_0 rfl rfl ?_
      refine xi_ineg (pc' := 2) (v := 2) kc_90_1 rfl rfl ?_
      refine xi_istore_n (pc' := 3) (lv' := [(2, .int 2), (0, .ref 0), (1, .int (-2))]) kc_90_2 rfl rfl (xm_lt ml_90 rfl) ?_
      refine xi_iload_n (pc' := 4) (x := 2) kc_90_3 rfl rfl ?_
      refine xi_iff (pc' := 7) kc_90_4 rfl rfl ?_
      refine xi_iload_n (pc' := 8) (x := 2) kc_90_7 rfl rfl ?_
      refine xi_aload_n (pc' := 9) (x := 0) kc_90_8 rfl rfl ?_
      refine xi_getfield (pc' := 12) (v := .ref 94) kc_90_9 rfl rfl rfl A183 rfl ?_
      obtain ⟨y184, A184, hy184, ry184⟩ := xk_arr K.1 xD_94
      refine xi_arraylength (pc' := 13) (n := 7) (v := 7) kc_90_12 rfl (xl_lenI (by decide) (by decide) A184 hy184) rfl ?_
      refine xi_cmf (pc' := 16) kc_90_13 rfl rfl ?_
      refine xi_aload_n (pc' := 17) (x := 0) kc_90_16 rfl rfl ?_
      refine xi_getfield (pc' := 20) (v := .ref 94) kc_90_17 rfl rfl rfl A183 rfl ?_
      refine xi_iload_n (pc' := 21) (x := 2) kc_90_20 rfl rfl ?_
      refine xi_dup2 (pc' := 22) kc_90_21 rfl ⟨rfl, rfl⟩ ?_
      obtain ⟨v185, ev185, bv185, dv185⟩ := xj_get hy184 ry184 (i := 2) (by decide) (by decide)
      refine xi_iaload (pc' := 23) (v := v185) kc_90_22 rfl A184 (by decide) rfl (xi_in (by decide) (by rw [hy184]; decide)) ev185 ?_
      refine xi_iconst (pc' := 24) (v := 1) kc_90_23 rfl rfl ?_
      obtain ⟨v186, ev186⟩ : ∃ q : Int32, (v185 : Int32) + 1 = q := ⟨_, rfl⟩
      have rv186 := xc_rng v186
      refine xi_iadd (pc' := 25) (v := v186) kc_90_24 rfl ev186 ?_
      obtain ⟨y187, s187, hy187, ry187⟩ := xj_set (v := v186) hy184 ry184 2 (by first | omega | decide) (by first | omega | decide)
      refine xi_iastore (pc' := 26) (x' := y187) kc_90_25 rfl A184 rfl (xi_in (by decide) (by rw [hy184]; decide)) s187 (fun hh187 eh187 => ?_)
      have K188 := xk_pa K (xk_wa rfl) xD_94 hy187 ry187 eh187
      refine xi_iload_n (pc' := 27) (x := (-2)) kc_90_26 rfl rfl ?_
      refine xi_ireturn kc_90_27 mr_90 rfl ?_
      show xw J ov (d + 1) 96 (8, [(0, .ref 0), (1, .int (-2))], [.int (-2), .int 1000000000], hh187) _
      refine xi_isub (pc' := 9) (v := 1000000002) kc_96_8 rfl rfl ?_
      refine xi_ireturn kc_96_9 mr_96 rfl ?_
      show xw J ov (d + 2) 95 (15, [(0, .ref 0), (1, .int x1), (2, .int x2), (3, .int x3)], [.int 1000000002], hh187) _
      refine xi_ireturn kc_95_15 mr_95 rfl ?_
      have zc1000000002 : (1000000002 : Int32).toInt = 1000000002 := by decide
      exact kk 1000000002 hh187 K188
