set_option maxHeartbeats 4000000 in
theorem mt_25_0 {J : xe_J} {ov : List (List Int32)} (hJ : ∀ d mj as h, mj ≠ xe_loff → J d mj as h = none) (hov1 : ov[1]? = some [10, 0, 0, 0, 0, 0]) (hov2 : ov[2]? = some [99, 30, 50, 50, 1, 99999]) {d : Nat} {Q : Option Value → xe_H → Prop} {h : xe_H} {x1 : Int32} {x2 : Int32} (T : xt h) (kk : (∀ (r : Int32) (h' : xe_H), xk [(0, 9), (115, 1), (83, 0), (29, 0), (31, 0), (33, 0), (35, 0), (37, 0), (39, 0), (41, 0), (43, 0), (45, 0), (47, 0), (49, 0), (51, 0), (125, 0), (29, 2), (31, 2), (33, 2), (35, 2), (37, 2), (39, 2), (41, 2), (43, 2), (45, 2), (47, 2), (49, 2), (51, 2), (127, 0), (1, 5), (115, 23)] h h' → Q (some (.int r)) h')) : xw J ov (d + 3) 25 (0, [(0, .ref 115), (1, .int x1), (2, .int x2)], [], h) Q := by
  have K : xk [(0, 9), (115, 1), (83, 0), (29, 0), (31, 0), (33, 0), (35, 0), (37, 0), (39, 0), (41, 0), (43, 0), (45, 0), (47, 0), (49, 0), (51, 0), (125, 0), (29, 2), (31, 2), (33, 2), (35, 2), (37, 2), (39, 2), (41, 2), (43, 2), (45, 2), (47, 2), (49, 2), (51, 2), (127, 0), (1, 5), (115, 23)] h h := xk_re T
  have rx1 := xc_rng x1
  have rx2 := xc_rng x2
  refine xi_aload_n (pc' := 1) (x := 115) kc_25_0 rfl rfl ?_
  refine xi_iconst (pc' := 2) (v := 0) kc_25_1 rfl rfl ?_
  refine xp_115 K.1 (fun u1 u2 u3 u4 u5 u6 u7 u8 u9 u10 u11 u12 u13 bu1 bu2 bu3 bu4 bu5 bu6 bu7 bu8 bu9 bu10 bu11 bu12 bu13 A14 => ?_)
  refine xi_putfield (pc' := 5) (fs' := [.int 0, .int u2, .ref 116, .ref 117, .ref 118, .ref 119, .ref 120, .ref 121, .ref 122, .ref 123, .ref 124, .ref 125, .ref 126, .ref 127, .ref 128, .ref 129, .int u3, .ref 130, .int u4, .ref 131, .ref 132, .ref 133, .ref 134, .int u5, .ref 135, .ref 136, .ref 137, .ref 138, .ref 139, .ref 140, .ref 141, .ref 142, .int u6, .int u7, .int u8, .ref 143, .ref 144, .ref 145, .ref 146, .ref 147, .ref 148, .int u9, .ref 149, .ref 150, .ref 151, .int u10, .ref 152, .ref 153, .ref 154, .ref 155, .ref 156, .ref 157, .ref 158, .ref 159, .int u11, .ref 160, .int u12, .ref 161, .ref 162, .ref 163, .ref 164, .int u13, .ref 165, .ref 166]) kc_25_2 rfl rfl rfl A14 rfl rfl rfl (Nat.le_of_ble_eq_true rfl) rfl (fun hh16 eh15 => ?_)
  have K17 := xk_pf (k := 0) (v := 0) K (xk_wf rfl) xD_115 A14 rfl (by first | omega | decide) (by first | omega | decide) eh15 rfl
  refine xi_iload_n (pc' := 6) (x := x1) kc_25_5 rfl rfl ?_
  refine xi_static (mj := 24) (as := [.int x1]) (st1 := []) (lv0 := [(0, .int x1)]) kc_25_6 rfl rfl (Nat.le_of_ble_eq_true rfl) rfl rfl (Nat.le_of_ble_eq_true rfl) (hJ _ _ _ _ (by decide)) (xm_le ml_24 rfl) rfl ?_
  refine xi_iload_n (pc' := 1) (x := x1) kc_24_0 rfl rfl ?_
  refine xi_iconst (pc' := 2) (v := 0) kc_24_1 rfl rfl ?_
  refine xi_bipush (pc' := 4) (v := 11) kc_24_2 rfl rfl ?_
  refine xi_static (mj := 11) (as := [.int x1, .int 0, .int 11]) (st1 := []) (lv0 := [(0, .int x1), (1, .int 0), (2, .int 11)]) kc_24_4 rfl rfl (Nat.le_of_ble_eq_true rfl) rfl rfl (Nat.le_of_ble_eq_true rfl) (hJ _ _ _ _ (by decide)) (xm_le ml_11 rfl) rfl ?_
  refine xi_iload_n (pc' := 1) (x := x1) kc_11_0 rfl rfl ?_
  refine xi_iload_n (pc' := 2) (x := 0) kc_11_1 rfl rfl ?_
  by_cases c18 : x1.toInt < 0
  · refine xi_cmt (pc' := 14) kc_11_2 rfl (xc_lt_t (X := x1.toInt) (Y := 0) rfl (by decide) (by omega)) ?_
    refine xi_iconst (pc' := 15) (v := 0) kc_11_14 rfl rfl ?_
    refine xi_ireturn kc_11_15 mr_11 rfl ?_
    show xw J ov (d + 2) 24 (7, [(0, .int x1)], [.int 0], hh16) _
    refine xi_ireturn kc_24_7 mr_24 rfl ?_
    show xw J ov (d + 3) 25 (9, [(0, .ref 115), (1, .int x1), (2, .int x2)], [.int 0], hh16) _
    refine xi_iff (pc' := 12) kc_25_9 rfl rfl ?_
    refine xi_aload_n (pc' := 13) (x := 115) kc_25_12 rfl rfl ?_
    refine xi_iconst (pc' := 14) (v := (-1)) kc_25_13 rfl rfl ?_
    refine xi_virtual (mj := 12) (as := [.int (-1)]) (st1 := []) (lv0 := [(0, .ref 115), (1, .int (-1))]) kc_25_14 rfl rfl rfl rfl rfl eh15.1 (Nat.le_of_ble_eq_true rfl) (hJ _ _ _ _ (by decide)) (xm_le ml_12 rfl) rfl ?_
    refine xi_aload_n (pc' := 1) (x := 115) kc_12_0 rfl rfl ?_
    refine xi_getfield (pc' := 4) (v := .ref 140) kc_12_1 rfl rfl rfl eh15.1 rfl ?_
    refine xi_iload_n (pc' := 5) (x := (-1)) kc_12_4 rfl rfl ?_
    refine xi_ineg (pc' := 6) (v := 1) kc_12_5 rfl rfl ?_
    refine xi_dup2 (pc' := 7) kc_12_6 rfl ⟨rfl, rfl⟩ ?_
    refine xcps4 (xk_arr K17.1 xD_140) (fun y19 A19 hy19 ry19 => ?_)
    refine xcps4 (xj_get hy19 ry19 (i := 1) (by decide) (by decide)) (fun v20 ev20 bv20 dv20 => ?_)
    refine xi_iaload (pc' := 8) (v := v20) kc_12_7 rfl A19 (by decide) rfl (xi_in (by decide) (by rw [hy19]; decide)) ev20 ?_
    refine xi_iconst (pc' := 9) (v := 1) kc_12_8 rfl rfl ?_
    refine xcps2 (α := Int32) ((v20 : Int32) + 1) (fun v21 ev21 => ?_)
    have rv21 := xc_rng v21
    refine xi_iadd (pc' := 10) (v := v21) kc_12_9 rfl ev21 ?_
    refine xcps4 (xj_set (v := v21) hy19 ry19 1 (by first | omega | decide) (by first | omega | decide)) (fun y22 s22 hy22 ry22 => ?_)
    refine xi_iastore (pc' := 11) (x' := y22) kc_12_10 rfl A19 rfl (xi_in (by decide) (by rw [hy19]; decide)) s22 (fun hh22 eh22 => ?_)
    have K23 := xk_pa K17 (xk_wa rfl) xD_140 hy22 ry22 eh22
    refine xi_iload_n (pc' := 12) (x := (-1)) kc_12_11 rfl rfl ?_
    refine xi_ireturn kc_12_12 mr_12 rfl ?_
    show xw J ov (d + 3) 25 (17, [(0, .ref 115), (1, .int x1), (2, .int x2)], [.int (-1)], hh22) _
    refine xi_ireturn kc_25_17 mr_25 rfl ?_
    have zcm1 : ((-1) : Int32).toInt = (-1) := by decide
    exact kk (-1) hh22 K23
  · refine xi_cmf (pc' := 5) kc_11_2 rfl (xc_lt_f (X := x1.toInt) (Y := 0) rfl (by decide) (by omega)) ?_
    refine xi_iload_n (pc' := 6) (x := x1) kc_11_5 rfl rfl ?_
    refine xi_iload_n (pc' := 7) (x := 11) kc_11_6 rfl rfl ?_
    by_cases c24 : 11 < x1.toInt
    · refine xi_cmt (pc' := 14) kc_11_7 rfl (xc_gt_t (X := x1.toInt) (Y := 11) rfl (by decide) (by omega)) ?_
      refine xi_iconst (pc' := 15) (v := 0) kc_11_14 rfl rfl ?_
      refine xi_ireturn kc_11_15 mr_11 rfl ?_
      show xw J ov (d + 2) 24 (7, [(0, .int x1)], [.int 0], hh16) _
      refine xi_ireturn kc_24_7 mr_24 rfl ?_
      show xw J ov (d + 3) 25 (9, [(0, .ref 115), (1, .int x1), (2, .int x2)], [.int 0], hh16) _
      refine xi_iff (pc' := 12) kc_25_9 rfl rfl ?_
      refine xi_aload_n (pc' := 13) (x := 115) kc_25_12 rfl rfl ?_
      refine xi_iconst (pc' := 14) (v := (-1)) kc_25_13 rfl rfl ?_
      refine xi_virtual (mj := 12) (as := [.int (-1)]) (st1 := []) (lv0 := [(0, .ref 115), (1, .int (-1))]) kc_25_14 rfl rfl rfl rfl rfl eh15.1 (Nat.le_of_ble_eq_true rfl) (hJ _ _ _ _ (by decide)) (xm_le ml_12 rfl) rfl ?_
      refine xi_aload_n (pc' := 1) (x := 115) kc_12_0 rfl rfl ?_
      refine xi_getfield (pc' := 4) (v := .ref 140) kc_12_1 rfl rfl rfl eh15.1 rfl ?_
      refine xi_iload_n (pc' := 5) (x := (-1)) kc_12_4 rfl rfl ?_
      refine xi_ineg (pc' := 6) (v := 1) kc_12_5 rfl rfl ?_
      refine xi_dup2 (pc' := 7) kc_12_6 rfl ⟨rfl, rfl⟩ ?_
      refine xcps4 (xk_arr K17.1 xD_140) (fun y25 A25 hy25 ry25 => ?_)
      refine xcps4 (xj_get hy25 ry25 (i := 1) (by decide) (by decide)) (fun v26 ev26 bv26 dv26 => ?_)
      refine xi_iaload (pc' := 8) (v := v26) kc_12_7 rfl A25 (by decide) rfl (xi_in (by decide) (by rw [hy25]; decide)) ev26 ?_
      refine xi_iconst (pc' := 9) (v := 1) kc_12_8 rfl rfl ?_
      refine xcps2 (α := Int32) ((v26 : Int32) + 1) (fun v27 ev27 => ?_)
      have rv27 := xc_rng v27
      refine xi_iadd (pc' := 10) (v := v27) kc_12_9 rfl ev27 ?_
      refine xcps4 (xj_set (v := v27) hy25 ry25 1 (by first | omega | decide) (by first | omega | decide)) (fun y28 s28 hy28 ry28 => ?_)
      refine xi_iastore (pc' := 11) (x' := y28) kc_12_10 rfl A25 rfl (xi_in (by decide) (by rw [hy25]; decide)) s28 (fun hh28 eh28 => ?_)
      have K29 := xk_pa K17 (xk_wa rfl) xD_140 hy28 ry28 eh28
      refine xi_iload_n (pc' := 12) (x := (-1)) kc_12_11 rfl rfl ?_
      refine xi_ireturn kc_12_12 mr_12 rfl ?_
      show xw J ov (d + 3) 25 (17, [(0, .ref 115), (1, .int x1), (2, .int x2)], [.int (-1)], hh28) _
      refine xi_ireturn kc_25_17 mr_25 rfl ?_
      have zcm1 : ((-1) : Int32).toInt = (-1) := by decide
      exact kk (-1) hh28 K29
    · refine xi_cmf (pc' := 10) kc_11_7 rfl (xc_gt_f (X := x1.toInt) (Y := 11) rfl (by decide) (by omega)) ?_
      refine xi_iconst (pc' := 11) (v := 1) kc_11_10 rfl rfl ?_
      refine xi_goto (pc' := 15) kc_11_11 rfl ?_
      refine xi_ireturn kc_11_15 mr_11 rfl ?_
      show xw J ov (d + 2) 24 (7, [(0, .int x1)], [.int 1], hh16) _
      refine xi_ireturn kc_24_7 mr_24 rfl ?_
      show xw J ov (d + 3) 25 (9, [(0, .ref 115), (1, .int x1), (2, .int x2)], [.int 1], hh16) _
      refine xi_ift (pc' := 18) kc_25_9 rfl rfl ?_
      refine xi_iload_n (pc' := 19) (x := x2) kc_25_18 rfl rfl ?_
      refine xi_iconst (pc' := 20) (v := 0) kc_25_19 rfl rfl ?_
      refine xi_iconst (pc' := 21) (v := 5) kc_25_20 rfl rfl ?_
      refine xi_static (mj := 11) (as := [.int x2, .int 0, .int 5]) (st1 := []) (lv0 := [(0, .int x2), (1, .int 0), (2, .int 5)]) kc_25_21 rfl rfl (Nat.le_of_ble_eq_true rfl) rfl rfl (Nat.le_of_ble_eq_true rfl) (hJ _ _ _ _ (by decide)) (xm_le ml_11 rfl) rfl ?_
      refine xi_iload_n (pc' := 1) (x := x2) kc_11_0 rfl rfl ?_
      refine xi_iload_n (pc' := 2) (x := 0) kc_11_1 rfl rfl ?_
      by_cases c30 : x2.toInt < 0
      · refine xi_cmt (pc' := 14) kc_11_2 rfl (xc_lt_t (X := x2.toInt) (Y := 0) rfl (by decide) (by omega)) ?_
        refine xi_iconst (pc' := 15) (v := 0) kc_11_14 rfl rfl ?_
        refine xi_ireturn kc_11_15 mr_11 rfl ?_
        show xw J ov (d + 3) 25 (24, [(0, .ref 115), (1, .int x1), (2, .int x2)], [.int 0], hh16) _
        refine xi_iff (pc' := 27) kc_25_24 rfl rfl ?_
        refine xi_aload_n (pc' := 28) (x := 115) kc_25_27 rfl rfl ?_
        refine xi_bipush (pc' := 30) (v := (-2)) kc_25_28 rfl rfl ?_
        refine xi_virtual (mj := 12) (as := [.int (-2)]) (st1 := []) (lv0 := [(0, .ref 115), (1, .int (-2))]) kc_25_30 rfl rfl rfl rfl rfl eh15.1 (Nat.le_of_ble_eq_true rfl) (hJ _ _ _ _ (by decide)) (xm_le ml_12 rfl) rfl ?_
        refine xi_aload_n (pc' := 1) (x := 115) kc_12_0 rfl rfl ?_
        refine xi_getfield (pc' := 4) (v := .ref 140) kc_12_1 rfl rfl rfl eh15.1 rfl ?_
        refine xi_iload_n (pc' := 5) (x := (-2)) kc_12_4 rfl rfl ?_
        refine xi_ineg (pc' := 6) (v := 2) kc_12_5 rfl rfl ?_
        refine xi_dup2 (pc' := 7) kc_12_6 rfl ⟨rfl, rfl⟩ ?_
        refine xcps4 (xk_arr K17.1 xD_140) (fun y31 A31 hy31 ry31 => ?_)
        refine xcps4 (xj_get hy31 ry31 (i := 2) (by decide) (by decide)) (fun v32 ev32 bv32 dv32 => ?_)
        refine xi_iaload (pc' := 8) (v := v32) kc_12_7 rfl A31 (by decide) rfl (xi_in (by decide) (by rw [hy31]; decide)) ev32 ?_
        refine xi_iconst (pc' := 9) (v := 1) kc_12_8 rfl rfl ?_
        refine xcps2 (α := Int32) ((v32 : Int32) + 1) (fun v33 ev33 => ?_)
        have rv33 := xc_rng v33
        refine xi_iadd (pc' := 10) (v := v33) kc_12_9 rfl ev33 ?_
        refine xcps4 (xj_set (v := v33) hy31 ry31 2 (by first | omega | decide) (by first | omega | decide)) (fun y34 s34 hy34 ry34 => ?_)
        refine xi_iastore (pc' := 11) (x' := y34) kc_12_10 rfl A31 rfl (xi_in (by decide) (by rw [hy31]; decide)) s34 (fun hh34 eh34 => ?_)
        have K35 := xk_pa K17 (xk_wa rfl) xD_140 hy34 ry34 eh34
        refine xi_iload_n (pc' := 12) (x := (-2)) kc_12_11 rfl rfl ?_
        refine xi_ireturn kc_12_12 mr_12 rfl ?_
        show xw J ov (d + 3) 25 (33, [(0, .ref 115), (1, .int x1), (2, .int x2)], [.int (-2)], hh34) _
        refine xi_ireturn kc_25_33 mr_25 rfl ?_
        have zcm2 : ((-2) : Int32).toInt = (-2) := by decide
        exact kk (-2) hh34 K35
      · refine xi_cmf (pc' := 5) kc_11_2 rfl (xc_lt_f (X := x2.toInt) (Y := 0) rfl (by decide) (by omega)) ?_
        refine xi_iload_n (pc' := 6) (x := x2) kc_11_5 rfl rfl ?_
        refine xi_iload_n (pc' := 7) (x := 5) kc_11_6 rfl rfl ?_
        by_cases c36 : 5 < x2.toInt
        · refine xi_cmt (pc' := 14) kc_11_7 rfl (xc_gt_t (X := x2.toInt) (Y := 5) rfl (by decide) (by omega)) ?_
          refine xi_iconst (pc' := 15) (v := 0) kc_11_14 rfl rfl ?_
          refine xi_ireturn kc_11_15 mr_11 rfl ?_
          show xw J ov (d + 3) 25 (24, [(0, .ref 115), (1, .int x1), (2, .int x2)], [.int 0], hh16) _
          refine xi_iff (pc' := 27) kc_25_24 rfl rfl ?_
          refine xi_aload_n (pc' := 28) (x := 115) kc_25_27 rfl rfl ?_
          refine xi_bipush (pc' := 30) (v := (-2)) kc_25_28 rfl rfl ?_
          refine xi_virtual (mj := 12) (as := [.int (-2)]) (st1 := []) (lv0 := [(0, .ref 115), (1, .int (-2))]) kc_25_30 rfl rfl rfl rfl rfl eh15.1 (Nat.le_of_ble_eq_true rfl) (hJ _ _ _ _ (by decide)) (xm_le ml_12 rfl) rfl ?_
          refine xi_aload_n (pc' := 1) (x := 115) kc_12_0 rfl rfl ?_
          refine xi_getfield (pc' := 4) (v := .ref 140) kc_12_1 rfl rfl rfl eh15.1 rfl ?_
          refine xi_iload_n (pc' := 5) (x := (-2)) kc_12_4 rfl rfl ?_
          refine xi_ineg (pc' := 6) (v := 2) kc_12_5 rfl rfl ?_
          refine xi_dup2 (pc' := 7) kc_12_6 rfl ⟨rfl, rfl⟩ ?_
          refine xcps4 (xk_arr K17.1 xD_140) (fun y37 A37 hy37 ry37 => ?_)
          refine xcps4 (xj_get hy37 ry37 (i := 2) (by decide) (by decide)) (fun v38 ev38 bv38 dv38 => ?_)
          refine xi_iaload (pc' := 8) (v := v38) kc_12_7 rfl A37 (by decide) rfl (xi_in (by decide) (by rw [hy37]; decide)) ev38 ?_
          refine xi_iconst (pc' := 9) (v := 1) kc_12_8 rfl rfl ?_
          refine xcps2 (α := Int32) ((v38 : Int32) + 1) (fun v39 ev39 => ?_)
          have rv39 := xc_rng v39
          refine xi_iadd (pc' := 10) (v := v39) kc_12_9 rfl ev39 ?_
          refine xcps4 (xj_set (v := v39) hy37 ry37 2 (by first | omega | decide) (by first | omega | decide)) (fun y40 s40 hy40 ry40 => ?_)
          refine xi_iastore (pc' := 11) (x' := y40) kc_12_10 rfl A37 rfl (xi_in (by decide) (by rw [hy37]; decide)) s40 (fun hh40 eh40 => ?_)
          have K41 := xk_pa K17 (xk_wa rfl) xD_140 hy40 ry40 eh40
          refine xi_iload_n (pc' := 12) (x := (-2)) kc_12_11 rfl rfl ?_
          refine xi_ireturn kc_12_12 mr_12 rfl ?_
          show xw J ov (d + 3) 25 (33, [(0, .ref 115), (1, .int x1), (2, .int x2)], [.int (-2)], hh40) _
          refine xi_ireturn kc_25_33 mr_25 rfl ?_
          have zcm2 : ((-2) : Int32).toInt = (-2) := by decide
          exact kk (-2) hh40 K41
        · refine xi_cmf (pc' := 10) kc_11_7 rfl (xc_gt_f (X := x2.toInt) (Y := 5) rfl (by decide) (by omega)) ?_
          refine xi_iconst (pc' := 11) (v := 1) kc_11_10 rfl rfl ?_
          refine xi_goto (pc' := 15) kc_11_11 rfl ?_
          refine xi_ireturn kc_11_15 mr_11 rfl ?_
          show xw J ov (d + 3) 25 (24, [(0, .ref 115), (1, .int x1), (2, .int x2)], [.int 1], hh16) _
          refine xi_ift (pc' := 34) kc_25_24 rfl rfl ?_
          refine xi_iload_n (pc' := 35) (x := x2) kc_25_34 rfl rfl ?_
          by_cases c42 : x2.toInt = 0
          · refine xi_tsi (pc' := 68) (z := 0) kc_25_35 (by omega) rfl (by decide) ?_
            refine xi_aload_n (pc' := 69) (x := 115) kc_25_68 rfl rfl ?_
            refine xi_getfield (pc' := 72) (v := .ref 125) kc_25_69 rfl rfl rfl eh15.1 rfl ?_
            refine xi_iload_n (pc' := 73) (x := x1) kc_25_72 rfl rfl ?_
            refine xcps4 (xk_arr K17.1 xD_125) (fun y43 A43 hy43 ry43 => ?_)
            refine xcps4 (xj_get hy43 ry43 (i := x1) (by omega) (by omega)) (fun v44 ev44 bv44 dv44 => ?_)
            refine xi_iaload (pc' := 74) (v := v44) kc_25_73 rfl A43 (by decide) rfl (xi_in (by omega) (by rw [hy43]; omega)) ev44 ?_
            refine xi_ireturn kc_25_74 mr_25 rfl ?_
            exact kk v44 hh16 K17
          by_cases c45 : x2.toInt = 1
          · refine xi_tsi (pc' := 75) (z := 1) kc_25_35 (by omega) rfl (by decide) ?_
            refine xi_aload_n (pc' := 76) (x := 115) kc_25_75 rfl rfl ?_
            refine xi_getfield (pc' := 79) (v := .ref 126) kc_25_76 rfl rfl rfl eh15.1 rfl ?_
            refine xi_iload_n (pc' := 80) (x := x1) kc_25_79 rfl rfl ?_
            refine xcps4 (xk_arr K17.1 xD_126) (fun y46 A46 hy46 ry46 => ?_)
            refine xcps4 (xj_get hy46 ry46 (i := x1) (by omega) (by omega)) (fun v47 ev47 bv47 dv47 => ?_)
            refine xi_iaload (pc' := 81) (v := v47) kc_25_80 rfl A46 (by decide) rfl (xi_in (by omega) (by rw [hy46]; omega)) ev47 ?_
            refine xi_ireturn kc_25_81 mr_25 rfl ?_
            exact kk v47 hh16 K17
          by_cases c48 : x2.toInt = 2
          · refine xi_tsi (pc' := 82) (z := 2) kc_25_35 (by omega) rfl (by decide) ?_
            refine xi_aload_n (pc' := 83) (x := 115) kc_25_82 rfl rfl ?_
            refine xi_getfield (pc' := 86) (v := .ref 127) kc_25_83 rfl rfl rfl eh15.1 rfl ?_
            refine xi_iload_n (pc' := 87) (x := x1) kc_25_86 rfl rfl ?_
            refine xcps4 (xk_arr K17.1 xD_127) (fun y49 A49 hy49 ry49 => ?_)
            refine xcps4 (xj_get hy49 ry49 (i := x1) (by omega) (by omega)) (fun v50 ev50 bv50 dv50 => ?_)
            refine xi_baload (pc' := 88) (v := v50) kc_25_87 rfl A49 rfl (xi_in (by omega) (by rw [hy49]; omega)) ev50 ?_
            by_cases c51 : v50.toInt = 0
            · refine xi_ift (pc' := 95) kc_25_88 rfl (xc_eq_t (X := v50.toInt) (Y := 0) rfl (by decide) (by omega)) ?_
              refine xi_iconst (pc' := 96) (v := 0) kc_25_95 rfl rfl ?_
              refine xi_ireturn kc_25_96 mr_25 rfl ?_
              have zc0 : (0 : Int32).toInt = 0 := by decide
              exact kk 0 hh16 K17
            · refine xi_iff (pc' := 91) kc_25_88 rfl (xc_eq_f (X := v50.toInt) (Y := 0) rfl (by decide) (by omega)) ?_
              refine xi_iconst (pc' := 92) (v := 1) kc_25_91 rfl rfl ?_
              refine xi_goto (pc' := 96) kc_25_92 rfl ?_
              refine xi_ireturn kc_25_96 mr_25 rfl ?_
              have zc1 : (1 : Int32).toInt = 1 := by decide
              exact kk 1 hh16 K17
          by_cases c52 : x2.toInt = 3
          · refine xi_tsi (pc' := 97) (z := 3) kc_25_35 (by omega) rfl (by decide) ?_
            refine xi_aload_n (pc' := 98) (x := 115) kc_25_97 rfl rfl ?_
            refine xi_getfield (pc' := 101) (v := .ref 128) kc_25_98 rfl rfl rfl eh15.1 rfl ?_
            refine xi_iload_n (pc' := 102) (x := x1) kc_25_101 rfl rfl ?_
            refine xcps4 (xk_arr K17.1 xD_128) (fun y53 A53 hy53 ry53 => ?_)
            refine xcps4 (xj_get hy53 ry53 (i := x1) (by omega) (by omega)) (fun v54 ev54 bv54 dv54 => ?_)
            refine xi_iaload (pc' := 103) (v := v54) kc_25_102 rfl A53 (by decide) rfl (xi_in (by omega) (by rw [hy53]; omega)) ev54 ?_
            refine xi_ireturn kc_25_103 mr_25 rfl ?_
            exact kk v54 hh16 K17
          by_cases c55 : x2.toInt = 4
          · refine xi_tsi (pc' := 104) (z := 4) kc_25_35 (by omega) rfl (by decide) ?_
            refine xi_aload_n (pc' := 105) (x := 115) kc_25_104 rfl rfl ?_
            refine xi_getfield (pc' := 108) (v := .ref 129) kc_25_105 rfl rfl rfl eh15.1 rfl ?_
            refine xi_iload_n (pc' := 109) (x := x1) kc_25_108 rfl rfl ?_
            refine xcps4 (xk_arr K17.1 xD_129) (fun y56 A56 hy56 ry56 => ?_)
            refine xcps4 (xj_get hy56 ry56 (i := x1) (by omega) (by omega)) (fun v57 ev57 bv57 dv57 => ?_)
            refine xi_iaload (pc' := 110) (v := v57) kc_25_109 rfl A56 (by decide) rfl (xi_in (by omega) (by rw [hy56]; omega)) ev57 ?_
            refine xi_ireturn kc_25_110 mr_25 rfl ?_
            exact kk v57 hh16 K17
          refine xi_tsd (pc' := 111) kc_25_35 rfl (by omega) ?_
          refine xi_aload_n (pc' := 112) (x := 115) kc_25_111 rfl rfl ?_
          refine xi_getfield (pc' := 115) (v := .ref 125) kc_25_112 rfl rfl rfl eh15.1 rfl ?_
          refine xi_iload_n (pc' := 116) (x := x1) kc_25_115 rfl rfl ?_
          refine xcps4 (xk_arr K17.1 xD_125) (fun y58 A58 hy58 ry58 => ?_)
          refine xcps4 (xj_get hy58 ry58 (i := x1) (by omega) (by omega)) (fun v59 ev59 bv59 dv59 => ?_)
          refine xi_iaload (pc' := 117) (v := v59) kc_25_116 rfl A58 (by decide) rfl (xi_in (by omega) (by rw [hy58]; omega)) ev59 ?_
          by_cases c60 : 0 ≤ v59.toInt
          · refine xi_ift (pc' := 124) kc_25_117 rfl (xc_ge_t (X := v59.toInt) (Y := 0) rfl (by decide) (by omega)) ?_
            refine xi_aload_n (pc' := 125) (x := 115) kc_25_124 rfl rfl ?_
            refine xi_iload_n (pc' := 126) (x := x1) kc_25_125 rfl rfl ?_
            refine xi_aload_n (pc' := 127) (x := 115) kc_25_126 rfl rfl ?_
            refine xi_getfield (pc' := 130) (v := .int u2) kc_25_127 rfl rfl rfl eh15.1 rfl ?_
            refine xi_virtual (mj := 26) (as := [.int x1, .int u2]) (st1 := []) (lv0 := [(0, .ref 115), (1, .int x1), (2, .int u2)]) kc_25_130 rfl rfl rfl rfl rfl eh15.1 (Nat.le_of_ble_eq_true rfl) (hJ _ _ _ _ (by decide)) (xm_le ml_26 rfl) rfl ?_
            refine xi_aload_n (pc' := 1) (x := 115) kc_26_0 rfl rfl ?_
            refine xi_getfield (pc' := 4) (v := .ref 117) kc_26_1 rfl rfl rfl eh15.1 rfl ?_
            refine xi_aload_n (pc' := 5) (x := 115) kc_26_4 rfl rfl ?_
            refine xi_getfield (pc' := 8) (v := .ref 125) kc_26_5 rfl rfl rfl eh15.1 rfl ?_
            refine xi_iload_n (pc' := 9) (x := x1) kc_26_8 rfl rfl ?_
            refine xi_iaload (pc' := 10) (v := v59) kc_26_9 rfl A58 (by decide) rfl (xi_in (by omega) (by rw [hy58]; omega)) ev59 ?_
            refine xcps4 (xk_arr K17.1 xD_117) (fun y61 A61 hy61 ry61 => ?_)
            refine xcps4 (xj_get hy61 ry61 (i := v59) (by omega) (by omega)) (fun v62 ev62 bv62 dv62 => ?_)
            refine xi_iaload (pc' := 11) (v := v62) kc_26_10 rfl A61 (by decide) rfl (xi_in (by omega) (by rw [hy61]; omega)) ev62 ?_
            refine xi_aload_n (pc' := 12) (x := 115) kc_26_11 rfl rfl ?_
            refine xi_iload_n (pc' := 13) (x := u2) kc_26_12 rfl rfl ?_
            refine xi_virtual (mj := 19) (as := [.int u2]) (st1 := [.int v62]) (lv0 := [(0, .ref 115), (1, .int u2)]) kc_26_13 rfl rfl rfl rfl rfl eh15.1 (Nat.le_of_ble_eq_true rfl) (hJ _ _ _ _ (by decide)) (xm_le ml_19 rfl) rfl ?_
            refine mt_19_0 hJ hov1 hov2 (d := d) (x1 := u2) K17.1 (by first | omega | decide) (fun r63 hh64 K65 => ?_)
            have br63 := xc_rng r63
            have K66 := xk_tr K17 K65 rfl
            refine xp_115 K66.1 (fun u67 u68 u69 u70 u71 u72 u73 u74 u75 u76 u77 u78 u79 bu67 bu68 bu69 bu70 bu71 bu72 bu73 bu74 bu75 bu76 bu77 bu78 bu79 A80 => ?_)
            have e81 : u2 = u68 := xk_eqi (q := 1) K65 rfl eh15.1 A80 rfl rfl
            subst e81
            have e82 : u5 = u71 := xk_eqi (q := 23) K65 rfl eh15.1 A80 rfl rfl
            subst e82
            have A83 := xk_eqa (q := 0) K65 rfl A58
            show xw J ov (d + 2) 26 (16, [(0, .ref 115), (1, .int x1), (2, .int u2)], [.int r63, .int v62], hh64) _
            refine xcps2 (α := Int32) ((v62 : Int32) - r63) (fun v84 ev84 => ?_)
            have rv84 := xc_rng v84
            refine xi_isub (pc' := 17) (v := v84) kc_26_16 rfl ev84 ?_
            refine xi_aload_n (pc' := 18) (x := 115) kc_26_17 rfl rfl ?_
            refine xi_getfield (pc' := 21) (v := .ref 126) kc_26_18 rfl rfl rfl A80 rfl ?_
            refine xi_iload_n (pc' := 22) (x := x1) kc_26_21 rfl rfl ?_
            refine xcps4 (xk_arr K66.1 xD_126) (fun y85 A85 hy85 ry85 => ?_)
            refine xcps4 (xj_get hy85 ry85 (i := x1) (by omega) (by omega)) (fun v86 ev86 bv86 dv86 => ?_)
            refine xi_iaload (pc' := 23) (v := v86) kc_26_22 rfl A85 (by decide) rfl (xi_in (by omega) (by rw [hy85]; omega)) ev86 ?_
            refine xcps2 (α := Int32) ((v84 : Int32) * v86) (fun v87 ev87 => ?_)
            have rv87 := xc_rng v87
            refine xi_imul (pc' := 24) (v := v87) kc_26_23 rfl ev87 ?_
            refine xi_bipush (pc' := 26) (v := 100) kc_26_24 rfl rfl ?_
            refine xcps2 (α := Int32) (v87 / 100) (fun v88 ev88 => ?_)
            have dv88 : 100 * v88.toInt ≤ v87.toInt + 99 ∧ v87.toInt ≤ 100 * v88.toInt + 99 := by rw [← ev88]; exact xz_div (X := v87.toInt) (Y := 100) rfl (by decide) (by decide)
            have bv88 : -21474837 ≤ v88.toInt ∧ v88.toInt ≤ 21474837 := by omega
            refine xi_idiv (pc' := 27) (v := v88) kc_26_26 rfl ev88 (by decide) ?_
            refine xi_istore_n (pc' := 28) (lv' := [(3, .int v88), (0, .ref 115), (1, .int x1), (2, .int u2)]) kc_26_27 rfl rfl (xm_lt ml_26 rfl) ?_
            refine xi_iload_n (pc' := 29) (x := v88) kc_26_28 rfl rfl ?_
            by_cases c89 : 0 ≤ v88.toInt
            · refine xi_ift (pc' := 36) kc_26_29 rfl (xc_ge_t (X := v88.toInt) (Y := 0) rfl (by decide) (by omega)) ?_
              refine xi_iload_n (pc' := 37) (x := v88) kc_26_36 rfl rfl ?_
              refine xi_ireturn kc_26_37 mr_26 rfl ?_
              show xw J ov (d + 3) 25 (133, [(0, .ref 115), (1, .int x1), (2, .int x2)], [.int v88], hh64) _
              refine xi_ireturn kc_25_133 mr_25 rfl ?_
              exact kk v88 hh64 K66
            · refine xi_iff (pc' := 32) kc_26_29 rfl (xc_ge_f (X := v88.toInt) (Y := 0) rfl (by decide) (by omega)) ?_
              refine xi_iconst (pc' := 33) (v := 0) kc_26_32 rfl rfl ?_
              refine xi_goto (pc' := 37) kc_26_33 rfl ?_
              refine xi_ireturn kc_26_37 mr_26 rfl ?_
              show xw J ov (d + 3) 25 (133, [(0, .ref 115), (1, .int x1), (2, .int x2)], [.int 0], hh64) _
              refine xi_ireturn kc_25_133 mr_25 rfl ?_
              have zc0 : (0 : Int32).toInt = 0 := by decide
              exact kk 0 hh64 K66
          · refine xi_iff (pc' := 120) kc_25_117 rfl (xc_ge_f (X := v59.toInt) (Y := 0) rfl (by decide) (by omega)) ?_
            refine xi_iconst (pc' := 121) (v := 0) kc_25_120 rfl rfl ?_
            refine xi_goto (pc' := 133) kc_25_121 rfl ?_
            refine xi_ireturn kc_25_133 mr_25 rfl ?_
            have zc0 : (0 : Int32).toInt = 0 := by decide
            exact kk 0 hh16 K17
set_option maxHeartbeats 4000000 in
theorem mt_27_0 {J : xe_J} {ov : List (List Int32)} (hJ : ∀ d mj as h, mj ≠ xe_loff → J d mj as h = none) (hov1 : ov[1]? = some [10, 0, 0, 0, 0, 0]) (hov2 : ov[2]? = some [99, 30, 50, 50, 1, 99999]) {d : Nat} {Q : Option Value → xe_H → Prop} {h : xe_H} {x1 : Int32} (T : xt h) (kk : (∀ (r : Int32) (h' : xe_H), xk [(0, 9), (115, 1), (83, 0), (29, 0), (31, 0), (33, 0), (35, 0), (37, 0), (39, 0), (41, 0), (43, 0), (45, 0), (47, 0), (49, 0), (51, 0), (125, 0), (29, 2), (31, 2), (33, 2), (35, 2), (37, 2), (39, 2), (41, 2), (43, 2), (45, 2), (47, 2), (49, 2), (51, 2), (127, 0), (1, 5), (115, 23)] h h' → Q (some (.int r)) h')) : xw J ov (d + 1) 27 (0, [(0, .ref 115), (1, .int x1)], [], h) Q := by
  have K : xk [(0, 9), (115, 1), (83, 0), (29, 0), (31, 0), (33, 0), (35, 0), (37, 0), (39, 0), (41, 0), (43, 0), (45, 0), (47, 0), (49, 0), (51, 0), (125, 0), (29, 2), (31, 2), (33, 2), (35, 2), (37, 2), (39, 2), (41, 2), (43, 2), (45, 2), (47, 2), (49, 2), (51, 2), (127, 0), (1, 5), (115, 23)] h h := xk_re T
  have rx1 := xc_rng x1
  refine xi_aload_n (pc' := 1) (x := 115) kc_27_0 rfl rfl ?_
  refine xi_iconst (pc' := 2) (v := 0) kc_27_1 rfl rfl ?_
  refine xp_115 K.1 (fun u1 u2 u3 u4 u5 u6 u7 u8 u9 u10 u11 u12 u13 bu1 bu2 bu3 bu4 bu5 bu6 bu7 bu8 bu9 bu10 bu11 bu12 bu13 A14 => ?_)
  refine xi_putfield (pc' := 5) (fs' := [.int 0, .int u2, .ref 116, .ref 117, .ref 118, .ref 119, .ref 120, .ref 121, .ref 122, .ref 123, .ref 124, .ref 125, .ref 126, .ref 127, .ref 128, .ref 129, .int u3, .ref 130, .int u4, .ref 131, .ref 132, .ref 133, .ref 134, .int u5, .ref 135, .ref 136, .ref 137, .ref 138, .ref 139, .ref 140, .ref 141, .ref 142, .int u6, .int u7, .int u8, .ref 143, .ref 144, .ref 145, .ref 146, .ref 147, .ref 148, .int u9, .ref 149, .ref 150, .ref 151, .int u10, .ref 152, .ref 153, .ref 154, .ref 155, .ref 156, .ref 157, .ref 158, .ref 159, .int u11, .ref 160, .int u12, .ref 161, .ref 162, .ref 163, .ref 164, .int u13, .ref 165, .ref 166]) kc_27_2 rfl rfl rfl A14 rfl rfl rfl (Nat.le_of_ble_eq_true rfl) rfl (fun hh16 eh15 => ?_)
  have K17 := xk_pf (k := 0) (v := 0) K (xk_wf rfl) xD_115 A14 rfl (by first | omega | decide) (by first | omega | decide) eh15 rfl
  refine xi_iload_n (pc' := 6) (x := x1) kc_27_5 rfl rfl ?_
  refine xi_iconst (pc' := 7) (v := 1) kc_27_6 rfl rfl ?_
  by_cases c18 : 1 ≤ x1.toInt
  · refine xi_cmt (pc' := 17) kc_27_7 rfl (xc_ge_t (X := x1.toInt) (Y := 1) rfl (by decide) (by omega)) ?_
    refine xi_iload_n (pc' := 18) (x := x1) kc_27_17 rfl rfl ?_
    refine xi_bipush (pc' := 20) (v := 50) kc_27_18 rfl rfl ?_
    by_cases c19 : x1.toInt ≤ 50
    · refine xi_cmt (pc' := 30) kc_27_20 rfl (xc_le_t (X := x1.toInt) (Y := 50) rfl (by decide) (by omega)) ?_
      refine xi_aload_n (pc' := 31) (x := 115) kc_27_30 rfl rfl ?_
      refine xi_getfield (pc' := 34) (v := .int u3) kc_27_31 rfl rfl rfl eh15.1 rfl ?_
      refine xi_istore_n (pc' := 35) (lv' := [(2, .int u3), (0, .ref 115), (1, .int x1)]) kc_27_34 rfl rfl (xm_lt ml_27 rfl) ?_
      refine xi_aload_n (pc' := 36) (x := 115) kc_27_35 rfl rfl ?_
      refine xi_iload_n (pc' := 37) (x := x1) kc_27_36 rfl rfl ?_
      refine xi_putfield (pc' := 40) (fs' := [.int 0, .int u2, .ref 116, .ref 117, .ref 118, .ref 119, .ref 120, .ref 121, .ref 122, .ref 123, .ref 124, .ref 125, .ref 126, .ref 127, .ref 128, .ref 129, .int x1, .ref 130, .int u4, .ref 131, .ref 132, .ref 133, .ref 134, .int u5, .ref 135, .ref 136, .ref 137, .ref 138, .ref 139, .ref 140, .ref 141, .ref 142, .int u6, .int u7, .int u8, .ref 143, .ref 144, .ref 145, .ref 146, .ref 147, .ref 148, .int u9, .ref 149, .ref 150, .ref 151, .int u10, .ref 152, .ref 153, .ref 154, .ref 155, .ref 156, .ref 157, .ref 158, .ref 159, .int u11, .ref 160, .int u12, .ref 161, .ref 162, .ref 163, .ref 164, .int u13, .ref 165, .ref 166]) kc_27_37 rfl rfl rfl eh15.1 rfl rfl rfl (Nat.le_of_ble_eq_true rfl) rfl (fun hh21 eh20 => ?_)
      have K22 := xk_pf (k := 16) (v := x1) K17 (xk_wf rfl) xD_115 eh15.1 rfl (by first | omega | decide) (by first | omega | decide) eh20 rfl
      refine xi_aload_n (pc' := 41) (x := 115) kc_27_40 rfl rfl ?_
      refine xi_iconst (pc' := 42) (v := 0) kc_27_41 rfl rfl ?_
      refine xi_putfield (pc' := 45) (fs' := [.int 0, .int u2, .ref 116, .ref 117, .ref 118, .ref 119, .ref 120, .ref 121, .ref 122, .ref 123, .ref 124, .ref 125, .ref 126, .ref 127, .ref 128, .ref 129, .int x1, .ref 130, .int u4, .ref 131, .ref 132, .ref 133, .ref 134, .int u5, .ref 135, .ref 136, .ref 137, .ref 138, .ref 139, .ref 140, .ref 141, .ref 142, .int u6, .int u7, .int u8, .ref 143, .ref 144, .ref 145, .ref 146, .ref 147, .ref 148, .int 0, .ref 149, .ref 150, .ref 151, .int u10, .ref 152, .ref 153, .ref 154, .ref 155, .ref 156, .ref 157, .ref 158, .ref 159, .int u11, .ref 160, .int u12, .ref 161, .ref 162, .ref 163, .ref 164, .int u13, .ref 165, .ref 166]) kc_27_42 rfl rfl rfl eh20.1 rfl rfl rfl (Nat.le_of_ble_eq_true rfl) rfl (fun hh24 eh23 => ?_)
      have K25 := xk_pf (k := 41) (v := 0) K22 (xk_wf rfl) xD_115 eh20.1 rfl (by first | omega | decide) (by first | omega | decide) eh23 rfl
      refine xi_iload_n (pc' := 46) (x := u3) kc_27_45 rfl rfl ?_
      refine xi_ireturn kc_27_46 mr_27 rfl ?_
      exact kk u3 hh24 K25
    · refine xi_cmf (pc' := 23) kc_27_20 rfl (xc_le_f (X := x1.toInt) (Y := 50) rfl (by decide) (by omega)) ?_
      refine xi_aload_n (pc' := 24) (x := 115) kc_27_23 rfl rfl ?_
      refine xi_bipush (pc' := 26) (v := (-6)) kc_27_24 rfl rfl ?_
      refine xi_virtual (mj := 12) (as := [.int (-6)]) (st1 := []) (lv0 := [(0, .ref 115), (1, .int (-6))]) kc_27_26 rfl rfl rfl rfl rfl eh15.1 (Nat.le_of_ble_eq_true rfl) (hJ _ _ _ _ (by decide)) (xm_le ml_12 rfl) rfl ?_
      refine xi_aload_n (pc' := 1) (x := 115) kc_12_0 rfl rfl ?_
      refine xi_getfield (pc' := 4) (v := .ref 140) kc_12_1 rfl rfl rfl eh15.1 rfl ?_
      refine xi_iload_n (pc' := 5) (x := (-6)) kc_12_4 rfl rfl ?_
      refine xi_ineg (pc' := 6) (v := 6) kc_12_5 rfl rfl ?_
      refine xi_dup2 (pc' := 7) kc_12_6 rfl ⟨rfl, rfl⟩ ?_
      refine xcps4 (xk_arr K17.1 xD_140) (fun y26 A26 hy26 ry26 => ?_)
      refine xcps4 (xj_get hy26 ry26 (i := 6) (by decide) (by decide)) (fun v27 ev27 bv27 dv27 => ?_)
      refine xi_iaload (pc' := 8) (v := v27) kc_12_7 rfl A26 (by decide) rfl (xi_in (by decide) (by rw [hy26]; decide)) ev27 ?_
      refine xi_iconst (pc' := 9) (v := 1) kc_12_8 rfl rfl ?_
      refine xcps2 (α := Int32) ((v27 : Int32) + 1) (fun v28 ev28 => ?_)
      have rv28 := xc_rng v28
      refine xi_iadd (pc' := 10) (v := v28) kc_12_9 rfl ev28 ?_
      refine xcps4 (xj_set (v := v28) hy26 ry26 6 (by first | omega | decide) (by first | omega | decide)) (fun y29 s29 hy29 ry29 => ?_)
      refine xi_iastore (pc' := 11) (x' := y29) kc_12_10 rfl A26 rfl (xi_in (by decide) (by rw [hy26]; decide)) s29 (fun hh29 eh29 => ?_)
      have K30 := xk_pa K17 (xk_wa rfl) xD_140 hy29 ry29 eh29
      refine xi_iload_n (pc' := 12) (x := (-6)) kc_12_11 rfl rfl ?_
      refine xi_ireturn kc_12_12 mr_12 rfl ?_
      show xw J ov (d + 1) 27 (29, [(0, .ref 115), (1, .int x1)], [.int (-6)], hh29) _
      refine xi_ireturn kc_27_29 mr_27 rfl ?_
      have zcm6 : ((-6) : Int32).toInt = (-6) := by decide
      exact kk (-6) hh29 K30
  · refine xi_cmf (pc' := 10) kc_27_7 rfl (xc_ge_f (X := x1.toInt) (Y := 1) rfl (by decide) (by omega)) ?_
    refine xi_aload_n (pc' := 11) (x := 115) kc_27_10 rfl rfl ?_
    refine xi_bipush (pc' := 13) (v := (-4)) kc_27_11 rfl rfl ?_
    refine xi_virtual (mj := 12) (as := [.int (-4)]) (st1 := []) (lv0 := [(0, .ref 115), (1, .int (-4))]) kc_27_13 rfl rfl rfl rfl rfl eh15.1 (Nat.le_of_ble_eq_true rfl) (hJ _ _ _ _ (by decide)) (xm_le ml_12 rfl) rfl ?_
    refine xi_aload_n (pc' := 1) (x := 115) kc_12_0 rfl rfl ?_
    refine xi_getfield (pc' := 4) (v := .ref 140) kc_12_1 rfl rfl rfl eh15.1 rfl ?_
    refine xi_iload_n (pc' := 5) (x := (-4)) kc_12_4 rfl rfl ?_
    refine xi_ineg (pc' := 6) (v := 4) kc_12_5 rfl rfl ?_
    refine xi_dup2 (pc' := 7) kc_12_6 rfl ⟨rfl, rfl⟩ ?_
    refine xcps4 (xk_arr K17.1 xD_140) (fun y31 A31 hy31 ry31 => ?_)
    refine xcps4 (xj_get hy31 ry31 (i := 4) (by decide) (by decide)) (fun v32 ev32 bv32 dv32 => ?_)
    refine xi_iaload (pc' := 8) (v := v32) kc_12_7 rfl A31 (by decide) rfl (xi_in (by decide) (by rw [hy31]; decide)) ev32 ?_
    refine xi_iconst (pc' := 9) (v := 1) kc_12_8 rfl rfl ?_
    refine xcps2 (α := Int32) ((v32 : Int32) + 1) (fun v33 ev33 => ?_)
    have rv33 := xc_rng v33
    refine xi_iadd (pc' := 10) (v := v33) kc_12_9 rfl ev33 ?_
    refine xcps4 (xj_set (v := v33) hy31 ry31 4 (by first | omega | decide) (by first | omega | decide)) (fun y34 s34 hy34 ry34 => ?_)
    refine xi_iastore (pc' := 11) (x' := y34) kc_12_10 rfl A31 rfl (xi_in (by decide) (by rw [hy31]; decide)) s34 (fun hh34 eh34 => ?_)
    have K35 := xk_pa K17 (xk_wa rfl) xD_140 hy34 ry34 eh34
    refine xi_iload_n (pc' := 12) (x := (-4)) kc_12_11 rfl rfl ?_
    refine xi_ireturn kc_12_12 mr_12 rfl ?_
    show xw J ov (d + 1) 27 (16, [(0, .ref 115), (1, .int x1)], [.int (-4)], hh34) _
    refine xi_ireturn kc_27_16 mr_27 rfl ?_
    have zcm4 : ((-4) : Int32).toInt = (-4) := by decide
    exact kk (-4) hh34 K35
set_option maxHeartbeats 4000000 in
theorem mt_28_0 {J : xe_J} {ov : List (List Int32)} (hJ : ∀ d mj as h, mj ≠ xe_loff → J d mj as h = none) (hov1 : ov[1]? = some [10, 0, 0, 0, 0, 0]) (hov2 : ov[2]? = some [99, 30, 50, 50, 1, 99999]) {d : Nat} {Q : Option Value → xe_H → Prop} {h : xe_H} {x1 : Int32} (T : xt h) (kk : (∀ (r : Int32) (h' : xe_H), xk [(0, 9), (115, 1), (83, 0), (29, 0), (31, 0), (33, 0), (35, 0), (37, 0), (39, 0), (41, 0), (43, 0), (45, 0), (47, 0), (49, 0), (51, 0), (125, 0), (29, 2), (31, 2), (33, 2), (35, 2), (37, 2), (39, 2), (41, 2), (43, 2), (45, 2), (47, 2), (49, 2), (51, 2), (127, 0), (1, 5), (115, 23)] h h' → Q (some (.int r)) h')) : xw J ov (d + 2) 28 (0, [(0, .ref 115), (1, .int x1)], [], h) Q := by
  have K : xk [(0, 9), (115, 1), (83, 0), (29, 0), (31, 0), (33, 0), (35, 0), (37, 0), (39, 0), (41, 0), (43, 0), (45, 0), (47, 0), (49, 0), (51, 0), (125, 0), (29, 2), (31, 2), (33, 2), (35, 2), (37, 2), (39, 2), (41, 2), (43, 2), (45, 2), (47, 2), (49, 2), (51, 2), (127, 0), (1, 5), (115, 23)] h h := xk_re T
  have rx1 := xc_rng x1
  refine xi_aload_n (pc' := 1) (x := 115) kc_28_0 rfl rfl ?_
  refine xi_iconst (pc' := 2) (v := 0) kc_28_1 rfl rfl ?_
  refine xp_115 K.1 (fun u1 u2 u3 u4 u5 u6 u7 u8 u9 u10 u11 u12 u13 bu1 bu2 bu3 bu4 bu5 bu6 bu7 bu8 bu9 bu10 bu11 bu12 bu13 A14 => ?_)
  refine xi_putfield (pc' := 5) (fs' := [.int 0, .int u2, .ref 116, .ref 117, .ref 118, .ref 119, .ref 120, .ref 121, .ref 122, .ref 123, .ref 124, .ref 125, .ref 126, .ref 127, .ref 128, .ref 129, .int u3, .ref 130, .int u4, .ref 131, .ref 132, .ref 133, .ref 134, .int u5, .ref 135, .ref 136, .ref 137, .ref 138, .ref 139, .ref 140, .ref 141, .ref 142, .int u6, .int u7, .int u8, .ref 143, .ref 144, .ref 145, .ref 146, .ref 147, .ref 148, .int u9, .ref 149, .ref 150, .ref 151, .int u10, .ref 152, .ref 153, .ref 154, .ref 155, .ref 156, .ref 157, .ref 158, .ref 159, .int u11, .ref 160, .int u12, .ref 161, .ref 162, .ref 163, .ref 164, .int u13, .ref 165, .ref 166]) kc_28_2 rfl rfl rfl A14 rfl rfl rfl (Nat.le_of_ble_eq_true rfl) rfl (fun hh16 eh15 => ?_)
  have K17 := xk_pf (k := 0) (v := 0) K (xk_wf rfl) xD_115 A14 rfl (by first | omega | decide) (by first | omega | decide) eh15 rfl
  refine xi_iload_n (pc' := 6) (x := x1) kc_28_5 rfl rfl ?_
  refine xi_static (mj := 24) (as := [.int x1]) (st1 := []) (lv0 := [(0, .int x1)]) kc_28_6 rfl rfl (Nat.le_of_ble_eq_true rfl) rfl rfl (Nat.le_of_ble_eq_true rfl) (hJ _ _ _ _ (by decide)) (xm_le ml_24 rfl) rfl ?_
  refine xi_iload_n (pc' := 1) (x := x1) kc_24_0 rfl rfl ?_
  refine xi_iconst (pc' := 2) (v := 0) kc_24_1 rfl rfl ?_
  refine xi_bipush (pc' := 4) (v := 11) kc_24_2 rfl rfl ?_
  refine xi_static (mj := 11) (as := [.int x1, .int 0, .int 11]) (st1 := []) (lv0 := [(0, .int x1), (1, .int 0), (2, .int 11)]) kc_24_4 rfl rfl (Nat.le_of_ble_eq_true rfl) rfl rfl (Nat.le_of_ble_eq_true rfl) (hJ _ _ _ _ (by decide)) (xm_le ml_11 rfl) rfl ?_
  refine xi_iload_n (pc' := 1) (x := x1) kc_11_0 rfl rfl ?_
  refine xi_iload_n (pc' := 2) (x := 0) kc_11_1 rfl rfl ?_
  by_cases c18 : x1.toInt < 0
  · refine xi_cmt (pc' := 14) kc_11_2 rfl (xc_lt_t (X := x1.toInt) (Y := 0) rfl (by decide) (by omega)) ?_
    refine xi_iconst (pc' := 15) (v := 0) kc_11_14 rfl rfl ?_
    refine xi_ireturn kc_11_15 mr_11 rfl ?_
    show xw J ov (d + 1) 24 (7, [(0, .int x1)], [.int 0], hh16) _
    refine xi_ireturn kc_24_7 mr_24 rfl ?_
    show xw J ov (d + 2) 28 (9, [(0, .ref 115), (1, .int x1)], [.int 0], hh16) _
    refine xi_iff (pc' := 12) kc_28_9 rfl rfl ?_
    refine xi_aload_n (pc' := 13) (x := 115) kc_28_12 rfl rfl ?_
    refine xi_iconst (pc' := 14) (v := (-1)) kc_28_13 rfl rfl ?_
    refine xi_virtual (mj := 12) (as := [.int (-1)]) (st1 := []) (lv0 := [(0, .ref 115), (1, .int (-1))]) kc_28_14 rfl rfl rfl rfl rfl eh15.1 (Nat.le_of_ble_eq_true rfl) (hJ _ _ _ _ (by decide)) (xm_le ml_12 rfl) rfl ?_
    refine xi_aload_n (pc' := 1) (x := 115) kc_12_0 rfl rfl ?_
    refine xi_getfield (pc' := 4) (v := .ref 140) kc_12_1 rfl rfl rfl eh15.1 rfl ?_
    refine xi_iload_n (pc' := 5) (x := (-1)) kc_12_4 rfl rfl ?_
    refine xi_ineg (pc' := 6) (v := 1) kc_12_5 rfl rfl ?_
    refine xi_dup2 (pc' := 7) kc_12_6 rfl ⟨rfl, rfl⟩ ?_
    refine xcps4 (xk_arr K17.1 xD_140) (fun y19 A19 hy19 ry19 => ?_)
    refine xcps4 (xj_get hy19 ry19 (i := 1) (by decide) (by decide)) (fun v20 ev20 bv20 dv20 => ?_)
    refine xi_iaload (pc' := 8) (v := v20) kc_12_7 rfl A19 (by decide) rfl (xi_in (by decide) (by rw [hy19]; decide)) ev20 ?_
    refine xi_iconst (pc' := 9) (v := 1) kc_12_8 rfl rfl ?_
    refine xcps2 (α := Int32) ((v20 : Int32) + 1) (fun v21 ev21 => ?_)
    have rv21 := xc_rng v21
    refine xi_iadd (pc' := 10) (v := v21) kc_12_9 rfl ev21 ?_
    refine xcps4 (xj_set (v := v21) hy19 ry19 1 (by first | omega | decide) (by first | omega | decide)) (fun y22 s22 hy22 ry22 => ?_)
    refine xi_iastore (pc' := 11) (x' := y22) kc_12_10 rfl A19 rfl (xi_in (by decide) (by rw [hy19]; decide)) s22 (fun hh22 eh22 => ?_)
    have K23 := xk_pa K17 (xk_wa rfl) xD_140 hy22 ry22 eh22
    refine xi_iload_n (pc' := 12) (x := (-1)) kc_12_11 rfl rfl ?_
    refine xi_ireturn kc_12_12 mr_12 rfl ?_
    show xw J ov (d + 2) 28 (17, [(0, .ref 115), (1, .int x1)], [.int (-1)], hh22) _
    refine xi_ireturn kc_28_17 mr_28 rfl ?_
    have zcm1 : ((-1) : Int32).toInt = (-1) := by decide
    exact kk (-1) hh22 K23
  · refine xi_cmf (pc' := 5) kc_11_2 rfl (xc_lt_f (X := x1.toInt) (Y := 0) rfl (by decide) (by omega)) ?_
    refine xi_iload_n (pc' := 6) (x := x1) kc_11_5 rfl rfl ?_
    refine xi_iload_n (pc' := 7) (x := 11) kc_11_6 rfl rfl ?_
    by_cases c24 : 11 < x1.toInt
    · refine xi_cmt (pc' := 14) kc_11_7 rfl (xc_gt_t (X := x1.toInt) (Y := 11) rfl (by decide) (by omega)) ?_
      refine xi_iconst (pc' := 15) (v := 0) kc_11_14 rfl rfl ?_
      refine xi_ireturn kc_11_15 mr_11 rfl ?_
      show xw J ov (d + 1) 24 (7, [(0, .int x1)], [.int 0], hh16) _
      refine xi_ireturn kc_24_7 mr_24 rfl ?_
      show xw J ov (d + 2) 28 (9, [(0, .ref 115), (1, .int x1)], [.int 0], hh16) _
      refine xi_iff (pc' := 12) kc_28_9 rfl rfl ?_
      refine xi_aload_n (pc' := 13) (x := 115) kc_28_12 rfl rfl ?_
      refine xi_iconst (pc' := 14) (v := (-1)) kc_28_13 rfl rfl ?_
      refine xi_virtual (mj := 12) (as := [.int (-1)]) (st1 := []) (lv0 := [(0, .ref 115), (1, .int (-1))]) kc_28_14 rfl rfl rfl rfl rfl eh15.1 (Nat.le_of_ble_eq_true rfl) (hJ _ _ _ _ (by decide)) (xm_le ml_12 rfl) rfl ?_
      refine xi_aload_n (pc' := 1) (x := 115) kc_12_0 rfl rfl ?_
      refine xi_getfield (pc' := 4) (v := .ref 140) kc_12_1 rfl rfl rfl eh15.1 rfl ?_
      refine xi_iload_n (pc' := 5) (x := (-1)) kc_12_4 rfl rfl ?_
      refine xi_ineg (pc' := 6) (v := 1) kc_12_5 rfl rfl ?_
      refine xi_dup2 (pc' := 7) kc_12_6 rfl ⟨rfl, rfl⟩ ?_
      refine xcps4 (xk_arr K17.1 xD_140) (fun y25 A25 hy25 ry25 => ?_)
      refine xcps4 (xj_get hy25 ry25 (i := 1) (by decide) (by decide)) (fun v26 ev26 bv26 dv26 => ?_)
      refine xi_iaload (pc' := 8) (v := v26) kc_12_7 rfl A25 (by decide) rfl (xi_in (by decide) (by rw [hy25]; decide)) ev26 ?_
      refine xi_iconst (pc' := 9) (v := 1) kc_12_8 rfl rfl ?_
      refine xcps2 (α := Int32) ((v26 : Int32) + 1) (fun v27 ev27 => ?_)
      have rv27 := xc_rng v27
      refine xi_iadd (pc' := 10) (v := v27) kc_12_9 rfl ev27 ?_
      refine xcps4 (xj_set (v := v27) hy25 ry25 1 (by first | omega | decide) (by first | omega | decide)) (fun y28 s28 hy28 ry28 => ?_)
      refine xi_iastore (pc' := 11) (x' := y28) kc_12_10 rfl A25 rfl (xi_in (by decide) (by rw [hy25]; decide)) s28 (fun hh28 eh28 => ?_)
      have K29 := xk_pa K17 (xk_wa rfl) xD_140 hy28 ry28 eh28
      refine xi_iload_n (pc' := 12) (x := (-1)) kc_12_11 rfl rfl ?_
      refine xi_ireturn kc_12_12 mr_12 rfl ?_
      show xw J ov (d + 2) 28 (17, [(0, .ref 115), (1, .int x1)], [.int (-1)], hh28) _
      refine xi_ireturn kc_28_17 mr_28 rfl ?_
      have zcm1 : ((-1) : Int32).toInt = (-1) := by decide
      exact kk (-1) hh28 K29
    · refine xi_cmf (pc' := 10) kc_11_7 rfl (xc_gt_f (X := x1.toInt) (Y := 11) rfl (by decide) (by omega)) ?_
      refine xi_iconst (pc' := 11) (v := 1) kc_11_10 rfl rfl ?_
      refine xi_goto (pc' := 15) kc_11_11 rfl ?_
      refine xi_ireturn kc_11_15 mr_11 rfl ?_
      show xw J ov (d + 1) 24 (7, [(0, .int x1)], [.int 1], hh16) _
      refine xi_ireturn kc_24_7 mr_24 rfl ?_
      show xw J ov (d + 2) 28 (9, [(0, .ref 115), (1, .int x1)], [.int 1], hh16) _
      refine xi_ift (pc' := 18) kc_28_9 rfl rfl ?_
      refine xi_aload_n (pc' := 19) (x := 115) kc_28_18 rfl rfl ?_
      refine xi_getfield (pc' := 22) (v := .ref 129) kc_28_19 rfl rfl rfl eh15.1 rfl ?_
      refine xi_iload_n (pc' := 23) (x := x1) kc_28_22 rfl rfl ?_
      refine xcps4 (xk_arr K17.1 xD_129) (fun y30 A30 hy30 ry30 => ?_)
      refine xcps4 (xj_get hy30 ry30 (i := x1) (by omega) (by omega)) (fun v31 ev31 bv31 dv31 => ?_)
      refine xi_iaload (pc' := 24) (v := v31) kc_28_23 rfl A30 (by decide) rfl (xi_in (by omega) (by rw [hy30]; omega)) ev31 ?_
      refine xi_istore_n (pc' := 25) (lv' := [(2, .int v31), (0, .ref 115), (1, .int x1)]) kc_28_24 rfl rfl (xm_lt ml_28 rfl) ?_
      refine xi_aload_n (pc' := 26) (x := 115) kc_28_25 rfl rfl ?_
      refine xi_getfield (pc' := 29) (v := .ref 129) kc_28_26 rfl rfl rfl eh15.1 rfl ?_
      refine xi_iload_n (pc' := 30) (x := x1) kc_28_29 rfl rfl ?_
      refine xi_iconst (pc' := 31) (v := 0) kc_28_30 rfl rfl ?_
      refine xcps4 (xj_set (v := 0) hy30 ry30 x1 (by first | omega | decide) (by first | omega | decide)) (fun y32 s32 hy32 ry32 => ?_)
      refine xi_iastore (pc' := 32) (x' := y32) kc_28_31 rfl A30 rfl (xi_in (by omega) (by rw [hy30]; omega)) s32 (fun hh32 eh32 => ?_)
      have K33 := xk_pa K17 (xk_wa rfl) xD_129 hy32 ry32 eh32
      refine xi_iload_n (pc' := 33) (x := v31) kc_28_32 rfl rfl ?_
      refine xi_ireturn kc_28_33 mr_28 rfl ?_
      exact kk v31 hh32 K33
set_option maxHeartbeats 4000000 in
theorem mt_29_0 {J : xe_J} {ov : List (List Int32)} (hJ : ∀ d mj as h, mj ≠ xe_loff → J d mj as h = none) (hov1 : ov[1]? = some [10, 0, 0, 0, 0, 0]) (hov2 : ov[2]? = some [99, 30, 50, 50, 1, 99999]) {d : Nat} {Q : Option Value → xe_H → Prop} {h : xe_H} {x1 : Int32} (T : xt h) (kk : (∀ (r : Int32) (h' : xe_H), xk [(0, 9), (115, 1), (83, 0), (29, 0), (31, 0), (33, 0), (35, 0), (37, 0), (39, 0), (41, 0), (43, 0), (45, 0), (47, 0), (49, 0), (51, 0), (125, 0), (29, 2), (31, 2), (33, 2), (35, 2), (37, 2), (39, 2), (41, 2), (43, 2), (45, 2), (47, 2), (49, 2), (51, 2), (127, 0), (1, 5), (115, 23)] h h' → Q (some (.int r)) h')) : xw J ov (d + 2) 29 (0, [(0, .ref 115), (1, .int x1)], [], h) Q := by
  have K : xk [(0, 9), (115, 1), (83, 0), (29, 0), (31, 0), (33, 0), (35, 0), (37, 0), (39, 0), (41, 0), (43, 0), (45, 0), (47, 0), (49, 0), (51, 0), (125, 0), (29, 2), (31, 2), (33, 2), (35, 2), (37, 2), (39, 2), (41, 2), (43, 2), (45, 2), (47, 2), (49, 2), (51, 2), (127, 0), (1, 5), (115, 23)] h h := xk_re T
  have rx1 := xc_rng x1
  refine xi_aload_n (pc' := 1) (x := 115) kc_29_0 rfl rfl ?_
  refine xi_iconst (pc' := 2) (v := 0) kc_29_1 rfl rfl ?_
  refine xp_115 K.1 (fun u1 u2 u3 u4 u5 u6 u7 u8 u9 u10 u11 u12 u13 bu1 bu2 bu3 bu4 bu5 bu6 bu7 bu8 bu9 bu10 bu11 bu12 bu13 A14 => ?_)
  refine xi_putfield (pc' := 5) (fs' := [.int 0, .int u2, .ref 116, .ref 117, .ref 118, .ref 119, .ref 120, .ref 121, .ref 122, .ref 123, .ref 124, .ref 125, .ref 126, .ref 127, .ref 128, .ref 129, .int u3, .ref 130, .int u4, .ref 131, .ref 132, .ref 133, .ref 134, .int u5, .ref 135, .ref 136, .ref 137, .ref 138, .ref 139, .ref 140, .ref 141, .ref 142, .int u6, .int u7, .int u8, .ref 143, .ref 144, .ref 145, .ref 146, .ref 147, .ref 148, .int u9, .ref 149, .ref 150, .ref 151, .int u10, .ref 152, .ref 153, .ref 154, .ref 155, .ref 156, .ref 157, .ref 158, .ref 159, .int u11, .ref 160, .int u12, .ref 161, .ref 162, .ref 163, .ref 164, .int u13, .ref 165, .ref 166]) kc_29_2 rfl rfl rfl A14 rfl rfl rfl (Nat.le_of_ble_eq_true rfl) rfl (fun hh16 eh15 => ?_)
  have K17 := xk_pf (k := 0) (v := 0) K (xk_wf rfl) xD_115 A14 rfl (by first | omega | decide) (by first | omega | decide) eh15 rfl
  refine xi_iload_n (pc' := 6) (x := x1) kc_29_5 rfl rfl ?_
  refine xi_static (mj := 10) (as := [.int x1]) (st1 := []) (lv0 := [(0, .int x1)]) kc_29_6 rfl rfl (Nat.le_of_ble_eq_true rfl) rfl rfl (Nat.le_of_ble_eq_true rfl) (hJ _ _ _ _ (by decide)) (xm_le ml_10 rfl) rfl ?_
  refine xi_iload_n (pc' := 1) (x := x1) kc_10_0 rfl rfl ?_
  refine xi_iconst (pc' := 2) (v := 0) kc_10_1 rfl rfl ?_
  refine xi_iconst (pc' := 3) (v := 5) kc_10_2 rfl rfl ?_
  refine xi_static (mj := 11) (as := [.int x1, .int 0, .int 5]) (st1 := []) (lv0 := [(0, .int x1), (1, .int 0), (2, .int 5)]) kc_10_3 rfl rfl (Nat.le_of_ble_eq_true rfl) rfl rfl (Nat.le_of_ble_eq_true rfl) (hJ _ _ _ _ (by decide)) (xm_le ml_11 rfl) rfl ?_
  refine xi_iload_n (pc' := 1) (x := x1) kc_11_0 rfl rfl ?_
  refine xi_iload_n (pc' := 2) (x := 0) kc_11_1 rfl rfl ?_
  by_cases c18 : x1.toInt < 0
  · refine xi_cmt (pc' := 14) kc_11_2 rfl (xc_lt_t (X := x1.toInt) (Y := 0) rfl (by decide) (by omega)) ?_
    refine xi_iconst (pc' := 15) (v := 0) kc_11_14 rfl rfl ?_
    refine xi_ireturn kc_11_15 mr_11 rfl ?_
    show xw J ov (d + 1) 10 (6, [(0, .int x1)], [.int 0], hh16) _
    refine xi_ireturn kc_10_6 mr_10 rfl ?_
    show xw J ov (d + 2) 29 (9, [(0, .ref 115), (1, .int x1)], [.int 0], hh16) _
    refine xi_ift (pc' := 21) kc_29_9 rfl rfl ?_
    refine xi_aload_n (pc' := 22) (x := 115) kc_29_21 rfl rfl ?_
    refine xi_iconst (pc' := 23) (v := (-1)) kc_29_22 rfl rfl ?_
    refine xi_virtual (mj := 12) (as := [.int (-1)]) (st1 := []) (lv0 := [(0, .ref 115), (1, .int (-1))]) kc_29_23 rfl rfl rfl rfl rfl eh15.1 (Nat.le_of_ble_eq_true rfl) (hJ _ _ _ _ (by decide)) (xm_le ml_12 rfl) rfl ?_
    refine xi_aload_n (pc' := 1) (x := 115) kc_12_0 rfl rfl ?_
    refine xi_getfield (pc' := 4) (v := .ref 140) kc_12_1 rfl rfl rfl eh15.1 rfl ?_
    refine xi_iload_n (pc' := 5) (x := (-1)) kc_12_4 rfl rfl ?_
    refine xi_ineg (pc' := 6) (v := 1) kc_12_5 rfl rfl ?_
    refine xi_dup2 (pc' := 7) kc_12_6 rfl ⟨rfl, rfl⟩ ?_
    refine xcps4 (xk_arr K17.1 xD_140) (fun y19 A19 hy19 ry19 => ?_)
    refine xcps4 (xj_get hy19 ry19 (i := 1) (by decide) (by decide)) (fun v20 ev20 bv20 dv20 => ?_)
    refine xi_iaload (pc' := 8) (v := v20) kc_12_7 rfl A19 (by decide) rfl (xi_in (by decide) (by rw [hy19]; decide)) ev20 ?_
    refine xi_iconst (pc' := 9) (v := 1) kc_12_8 rfl rfl ?_
    refine xcps2 (α := Int32) ((v20 : Int32) + 1) (fun v21 ev21 => ?_)
    have rv21 := xc_rng v21
    refine xi_iadd (pc' := 10) (v := v21) kc_12_9 rfl ev21 ?_
    refine xcps4 (xj_set (v := v21) hy19 ry19 1 (by first | omega | decide) (by first | omega | decide)) (fun y22 s22 hy22 ry22 => ?_)
    refine xi_iastore (pc' := 11) (x' := y22) kc_12_10 rfl A19 rfl (xi_in (by decide) (by rw [hy19]; decide)) s22 (fun hh22 eh22 => ?_)
    have K23 := xk_pa K17 (xk_wa rfl) xD_140 hy22 ry22 eh22
    refine xi_iload_n (pc' := 12) (x := (-1)) kc_12_11 rfl rfl ?_
    refine xi_ireturn kc_12_12 mr_12 rfl ?_
    show xw J ov (d + 2) 29 (26, [(0, .ref 115), (1, .int x1)], [.int (-1)], hh22) _
    refine xi_ireturn kc_29_26 mr_29 rfl ?_
    have zcm1 : ((-1) : Int32).toInt = (-1) := by decide
    exact kk (-1) hh22 K23
  · refine xi_cmf (pc' := 5) kc_11_2 rfl (xc_lt_f (X := x1.toInt) (Y := 0) rfl (by decide) (by omega)) ?_
    refine xi_iload_n (pc' := 6) (x := x1) kc_11_5 rfl rfl ?_
    refine xi_iload_n (pc' := 7) (x := 5) kc_11_6 rfl rfl ?_
    by_cases c24 : 5 < x1.toInt
    · refine xi_cmt (pc' := 14) kc_11_7 rfl (xc_gt_t (X := x1.toInt) (Y := 5) rfl (by decide) (by omega)) ?_
      refine xi_iconst (pc' := 15) (v := 0) kc_11_14 rfl rfl ?_
      refine xi_ireturn kc_11_15 mr_11 rfl ?_
      show xw J ov (d + 1) 10 (6, [(0, .int x1)], [.int 0], hh16) _
      refine xi_ireturn kc_10_6 mr_10 rfl ?_
      show xw J ov (d + 2) 29 (9, [(0, .ref 115), (1, .int x1)], [.int 0], hh16) _
      refine xi_ift (pc' := 21) kc_29_9 rfl rfl ?_
      refine xi_aload_n (pc' := 22) (x := 115) kc_29_21 rfl rfl ?_
      refine xi_iconst (pc' := 23) (v := (-1)) kc_29_22 rfl rfl ?_
      refine xi_virtual (mj := 12) (as := [.int (-1)]) (st1 := []) (lv0 := [(0, .ref 115), (1, .int (-1))]) kc_29_23 rfl rfl rfl rfl rfl eh15.1 (Nat.le_of_ble_eq_true rfl) (hJ _ _ _ _ (by decide)) (xm_le ml_12 rfl) rfl ?_
      refine xi_aload_n (pc' := 1) (x := 115) kc_12_0 rfl rfl ?_
      refine xi_getfield (pc' := 4) (v := .ref 140) kc_12_1 rfl rfl rfl eh15.1 rfl ?_
      refine xi_iload_n (pc' := 5) (x := (-1)) kc_12_4 rfl rfl ?_
      refine xi_ineg (pc' := 6) (v := 1) kc_12_5 rfl rfl ?_
      refine xi_dup2 (pc' := 7) kc_12_6 rfl ⟨rfl, rfl⟩ ?_
      refine xcps4 (xk_arr K17.1 xD_140) (fun y25 A25 hy25 ry25 => ?_)
      refine xcps4 (xj_get hy25 ry25 (i := 1) (by decide) (by decide)) (fun v26 ev26 bv26 dv26 => ?_)
      refine xi_iaload (pc' := 8) (v := v26) kc_12_7 rfl A25 (by decide) rfl (xi_in (by decide) (by rw [hy25]; decide)) ev26 ?_
      refine xi_iconst (pc' := 9) (v := 1) kc_12_8 rfl rfl ?_
      refine xcps2 (α := Int32) ((v26 : Int32) + 1) (fun v27 ev27 => ?_)
      have rv27 := xc_rng v27
      refine xi_iadd (pc' := 10) (v := v27) kc_12_9 rfl ev27 ?_
      refine xcps4 (xj_set (v := v27) hy25 ry25 1 (by first | omega | decide) (by first | omega | decide)) (fun y28 s28 hy28 ry28 => ?_)
      refine xi_iastore (pc' := 11) (x' := y28) kc_12_10 rfl A25 rfl (xi_in (by decide) (by rw [hy25]; decide)) s28 (fun hh28 eh28 => ?_)
      have K29 := xk_pa K17 (xk_wa rfl) xD_140 hy28 ry28 eh28
      refine xi_iload_n (pc' := 12) (x := (-1)) kc_12_11 rfl rfl ?_
      refine xi_ireturn kc_12_12 mr_12 rfl ?_
      show xw J ov (d + 2) 29 (26, [(0, .ref 115), (1, .int x1)], [.int (-1)], hh28) _
      refine xi_ireturn kc_29_26 mr_29 rfl ?_
      have zcm1 : ((-1) : Int32).toInt = (-1) := by decide
      exact kk (-1) hh28 K29
    · refine xi_cmf (pc' := 10) kc_11_7 rfl (xc_gt_f (X := x1.toInt) (Y := 5) rfl (by decide) (by omega)) ?_
      refine xi_iconst (pc' := 11) (v := 1) kc_11_10 rfl rfl ?_
      refine xi_goto (pc' := 15) kc_11_11 rfl ?_
      refine xi_ireturn kc_11_15 mr_11 rfl ?_
      show xw J ov (d + 1) 10 (6, [(0, .int x1)], [.int 1], hh16) _
      refine xi_ireturn kc_10_6 mr_10 rfl ?_
      show xw J ov (d + 2) 29 (9, [(0, .ref 115), (1, .int x1)], [.int 1], hh16) _
      refine xi_iff (pc' := 12) kc_29_9 rfl rfl ?_
      refine xi_aload_n (pc' := 13) (x := 115) kc_29_12 rfl rfl ?_
      refine xi_getfield (pc' := 16) (v := .ref 121) kc_29_13 rfl rfl rfl eh15.1 rfl ?_
      refine xi_iload_n (pc' := 17) (x := x1) kc_29_16 rfl rfl ?_
      refine xcps4 (xk_arr K17.1 xD_121) (fun y30 A30 hy30 ry30 => ?_)
      refine xcps4 (xj_get hy30 ry30 (i := x1) (by omega) (by omega)) (fun v31 ev31 bv31 dv31 => ?_)
      refine xi_iaload (pc' := 18) (v := v31) kc_29_17 rfl A30 (by decide) rfl (xi_in (by omega) (by rw [hy30]; omega)) ev31 ?_
      refine xi_goto (pc' := 26) kc_29_18 rfl ?_
      refine xi_ireturn kc_29_26 mr_29 rfl ?_
      exact kk v31 hh16 K17
set_option maxHeartbeats 4000000 in
theorem mt_30_0 {J : xe_J} {ov : List (List Int32)} (hJ : ∀ d mj as h, mj ≠ xe_loff → J d mj as h = none) (hov1 : ov[1]? = some [10, 0, 0, 0, 0, 0]) (hov2 : ov[2]? = some [99, 30, 50, 50, 1, 99999]) {d : Nat} {Q : Option Value → xe_H → Prop} {h : xe_H} {x1 : Int32} {x2 : Int32} {x3 : Int32} {x4 : Int32} (T : xt h) (kk : (∀ (r : Int32) (h' : xe_H), ((-6) ≤ r.toInt ∧ r.toInt ≤ 59) → xk [(0, 9), (115, 1), (83, 0), (29, 0), (31, 0), (33, 0), (35, 0), (37, 0), (39, 0), (41, 0), (43, 0), (45, 0), (47, 0), (49, 0), (51, 0), (125, 0), (29, 2), (31, 2), (33, 2), (35, 2), (37, 2), (39, 2), (41, 2), (43, 2), (45, 2), (47, 2), (49, 2), (51, 2), (127, 0), (1, 5), (115, 23)] h h' → Q (some (.int r)) h')) : xw J ov (d + 3) 30 (0, [(0, .ref 115), (1, .int x1), (2, .int x2), (3, .int x3), (4, .int x4)], [], h) Q := by
  have K : xk [(0, 9), (115, 1), (83, 0), (29, 0), (31, 0), (33, 0), (35, 0), (37, 0), (39, 0), (41, 0), (43, 0), (45, 0), (47, 0), (49, 0), (51, 0), (125, 0), (29, 2), (31, 2), (33, 2), (35, 2), (37, 2), (39, 2), (41, 2), (43, 2), (45, 2), (47, 2), (49, 2), (51, 2), (127, 0), (1, 5), (115, 23)] h h := xk_re T
  have rx1 := xc_rng x1
  have rx2 := xc_rng x2
  have rx3 := xc_rng x3
  have rx4 := xc_rng x4
  refine xi_aload_n (pc' := 1) (x := 115) kc_30_0 rfl rfl ?_
  refine xi_iconst (pc' := 2) (v := 0) kc_30_1 rfl rfl ?_
  refine xp_115 K.1 (fun u1 u2 u3 u4 u5 u6 u7 u8 u9 u10 u11 u12 u13 bu1 bu2 bu3 bu4 bu5 bu6 bu7 bu8 bu9 bu10 bu11 bu12 bu13 A14 => ?_)
  refine xi_putfield (pc' := 5) (fs' := [.int 0, .int u2, .ref 116, .ref 117, .ref 118, .ref 119, .ref 120, .ref 121, .ref 122, .ref 123, .ref 124, .ref 125, .ref 126, .ref 127, .ref 128, .ref 129, .int u3, .ref 130, .int u4, .ref 131, .ref 132, .ref 133, .ref 134, .int u5, .ref 135, .ref 136, .ref 137, .ref 138, .ref 139, .ref 140, .ref 141, .ref 142, .int u6, .int u7, .int u8, .ref 143, .ref 144, .ref 145, .ref 146, .ref 147, .ref 148, .int u9, .ref 149, .ref 150, .ref 151, .int u10, .ref 152, .ref 153, .ref 154, .ref 155, .ref 156, .ref 157, .ref 158, .ref 159, .int u11, .ref 160, .int u12, .ref 161, .ref 162, .ref 163, .ref 164, .int u13, .ref 165, .ref 166]) kc_30_2 rfl rfl rfl A14 rfl rfl rfl (Nat.le_of_ble_eq_true rfl) rfl (fun hh16 eh15 => ?_)
  have K17 := xk_pf (k := 0) (v := 0) K (xk_wf rfl) xD_115 A14 rfl (by first | omega | decide) (by first | omega | decide) eh15 rfl
  refine xi_aload_n (pc' := 6) (x := 115) kc_30_5 rfl rfl ?_
  refine xi_iload_n (pc' := 7) (x := x1) kc_30_6 rfl rfl ?_
  refine xi_virtual (mj := 31) (as := [.int x1]) (st1 := []) (lv0 := [(0, .ref 115), (1, .int x1)]) kc_30_7 rfl rfl rfl rfl rfl eh15.1 (Nat.le_of_ble_eq_true rfl) (hJ _ _ _ _ (by decide)) (xm_le ml_31 rfl) rfl ?_
  refine xi_iload_n (pc' := 1) (x := x1) kc_31_0 rfl rfl ?_
  refine xi_static (mj := 24) (as := [.int x1]) (st1 := []) (lv0 := [(0, .int x1)]) kc_31_1 rfl rfl (Nat.le_of_ble_eq_true rfl) rfl rfl (Nat.le_of_ble_eq_true rfl) (hJ _ _ _ _ (by decide)) (xm_le ml_24 rfl) rfl ?_
  refine xi_iload_n (pc' := 1) (x := x1) kc_24_0 rfl rfl ?_
  refine xi_iconst (pc' := 2) (v := 0) kc_24_1 rfl rfl ?_
  refine xi_bipush (pc' := 4) (v := 11) kc_24_2 rfl rfl ?_
  refine xi_static (mj := 11) (as := [.int x1, .int 0, .int 11]) (st1 := []) (lv0 := [(0, .int x1), (1, .int 0), (2, .int 11)]) kc_24_4 rfl rfl (Nat.le_of_ble_eq_true rfl) rfl rfl (Nat.le_of_ble_eq_true rfl) (hJ _ _ _ _ (by decide)) (xm_le ml_11 rfl) rfl ?_
  refine xi_iload_n (pc' := 1) (x := x1) kc_11_0 rfl rfl ?_
  refine xi_iload_n (pc' := 2) (x := 0) kc_11_1 rfl rfl ?_
  by_cases c18 : x1.toInt < 0
  · refine xi_cmt (pc' := 14) kc_11_2 rfl (xc_lt_t (X := x1.toInt) (Y := 0) rfl (by decide) (by omega)) ?_
    refine xi_iconst (pc' := 15) (v := 0) kc_11_14 rfl rfl ?_
    refine xi_ireturn kc_11_15 mr_11 rfl ?_
    show xw J ov (d + 1) 24 (7, [(0, .int x1)], [.int 0], hh16) _
    refine xi_ireturn kc_24_7 mr_24 rfl ?_
    show xw J ov (d + 2) 31 (4, [(0, .ref 115), (1, .int x1)], [.int 0], hh16) _
    refine xi_ift (pc' := 20) kc_31_4 rfl rfl ?_
    refine xi_iconst (pc' := 21) (v := 0) kc_31_20 rfl rfl ?_
    refine xi_ireturn kc_31_21 mr_31 rfl ?_
    show xw J ov (d + 3) 30 (10, [(0, .ref 115), (1, .int x1), (2, .int x2), (3, .int x3), (4, .int x4)], [.int 0], hh16) _
    refine xi_iff (pc' := 13) kc_30_10 rfl rfl ?_
    refine xi_aload_n (pc' := 14) (x := 115) kc_30_13 rfl rfl ?_
    refine xi_iconst (pc' := 15) (v := (-1)) kc_30_14 rfl rfl ?_
    refine xi_virtual (mj := 12) (as := [.int (-1)]) (st1 := []) (lv0 := [(0, .ref 115), (1, .int (-1))]) kc_30_15 rfl rfl rfl rfl rfl eh15.1 (Nat.le_of_ble_eq_true rfl) (hJ _ _ _ _ (by decide)) (xm_le ml_12 rfl) rfl ?_
    refine xi_aload_n (pc' := 1) (x := 115) kc_12_0 rfl rfl ?_
    refine xi_getfield (pc' := 4) (v := .ref 140) kc_12_1 rfl rfl rfl eh15.1 rfl ?_
    refine xi_iload_n (pc' := 5) (x := (-1)) kc_12_4 rfl rfl ?_
    refine xi_ineg (pc' := 6) (v := 1) kc_12_5 rfl rfl ?_
    refine xi_dup2 (pc' := 7) kc_12_6 rfl ⟨rfl, rfl⟩ ?_
    refine xcps4 (xk_arr K17.1 xD_140) (fun y19 A19 hy19 ry19 => ?_)
    refine xcps4 (xj_get hy19 ry19 (i := 1) (by decide) (by decide)) (fun v20 ev20 bv20 dv20 => ?_)
    refine xi_iaload (pc' := 8) (v := v20) kc_12_7 rfl A19 (by decide) rfl (xi_in (by decide) (by rw [hy19]; decide)) ev20 ?_
    refine xi_iconst (pc' := 9) (v := 1) kc_12_8 rfl rfl ?_
    refine xcps2 (α := Int32) ((v20 : Int32) + 1) (fun v21 ev21 => ?_)
    have rv21 := xc_rng v21
    refine xi_iadd (pc' := 10) (v := v21) kc_12_9 rfl ev21 ?_
    refine xcps4 (xj_set (v := v21) hy19 ry19 1 (by first | omega | decide) (by first | omega | decide)) (fun y22 s22 hy22 ry22 => ?_)
    refine xi_iastore (pc' := 11) (x' := y22) kc_12_10 rfl A19 rfl (xi_in (by decide) (by rw [hy19]; decide)) s22 (fun hh22 eh22 => ?_)
    have K23 := xk_pa K17 (xk_wa rfl) xD_140 hy22 ry22 eh22
    refine xi_iload_n (pc' := 12) (x := (-1)) kc_12_11 rfl rfl ?_
    refine xi_ireturn kc_12_12 mr_12 rfl ?_
    show xw J ov (d + 3) 30 (18, [(0, .ref 115), (1, .int x1), (2, .int x2), (3, .int x3), (4, .int x4)], [.int (-1)], hh22) _
    refine xi_ireturn kc_30_18 mr_30 rfl ?_
    have zcm1 : ((-1) : Int32).toInt = (-1) := by decide
    exact kk (-1) hh22 (by omega) K23
  · refine xi_cmf (pc' := 5) kc_11_2 rfl (xc_lt_f (X := x1.toInt) (Y := 0) rfl (by decide) (by omega)) ?_
    refine xi_iload_n (pc' := 6) (x := x1) kc_11_5 rfl rfl ?_
    refine xi_iload_n (pc' := 7) (x := 11) kc_11_6 rfl rfl ?_
    by_cases c24 : 11 < x1.toInt
    · refine xi_cmt (pc' := 14) kc_11_7 rfl (xc_gt_t (X := x1.toInt) (Y := 11) rfl (by decide) (by omega)) ?_
      refine xi_iconst (pc' := 15) (v := 0) kc_11_14 rfl rfl ?_
      refine xi_ireturn kc_11_15 mr_11 rfl ?_
      show xw J ov (d + 1) 24 (7, [(0, .int x1)], [.int 0], hh16) _
      refine xi_ireturn kc_24_7 mr_24 rfl ?_
      show xw J ov (d + 2) 31 (4, [(0, .ref 115), (1, .int x1)], [.int 0], hh16) _
      refine xi_ift (pc' := 20) kc_31_4 rfl rfl ?_
      refine xi_iconst (pc' := 21) (v := 0) kc_31_20 rfl rfl ?_
      refine xi_ireturn kc_31_21 mr_31 rfl ?_
      show xw J ov (d + 3) 30 (10, [(0, .ref 115), (1, .int x1), (2, .int x2), (3, .int x3), (4, .int x4)], [.int 0], hh16) _
      refine xi_iff (pc' := 13) kc_30_10 rfl rfl ?_
      refine xi_aload_n (pc' := 14) (x := 115) kc_30_13 rfl rfl ?_
      refine xi_iconst (pc' := 15) (v := (-1)) kc_30_14 rfl rfl ?_
      refine xi_virtual (mj := 12) (as := [.int (-1)]) (st1 := []) (lv0 := [(0, .ref 115), (1, .int (-1))]) kc_30_15 rfl rfl rfl rfl rfl eh15.1 (Nat.le_of_ble_eq_true rfl) (hJ _ _ _ _ (by decide)) (xm_le ml_12 rfl) rfl ?_
      refine xi_aload_n (pc' := 1) (x := 115) kc_12_0 rfl rfl ?_
      refine xi_getfield (pc' := 4) (v := .ref 140) kc_12_1 rfl rfl rfl eh15.1 rfl ?_
      refine xi_iload_n (pc' := 5) (x := (-1)) kc_12_4 rfl rfl ?_
      refine xi_ineg (pc' := 6) (v := 1) kc_12_5 rfl rfl ?_
      refine xi_dup2 (pc' := 7) kc_12_6 rfl ⟨rfl, rfl⟩ ?_
      refine xcps4 (xk_arr K17.1 xD_140) (fun y25 A25 hy25 ry25 => ?_)
      refine xcps4 (xj_get hy25 ry25 (i := 1) (by decide) (by decide)) (fun v26 ev26 bv26 dv26 => ?_)
      refine xi_iaload (pc' := 8) (v := v26) kc_12_7 rfl A25 (by decide) rfl (xi_in (by decide) (by rw [hy25]; decide)) ev26 ?_
      refine xi_iconst (pc' := 9) (v := 1) kc_12_8 rfl rfl ?_
      refine xcps2 (α := Int32) ((v26 : Int32) + 1) (fun v27 ev27 => ?_)
      have rv27 := xc_rng v27
      refine xi_iadd (pc' := 10) (v := v27) kc_12_9 rfl ev27 ?_
      refine xcps4 (xj_set (v := v27) hy25 ry25 1 (by first | omega | decide) (by first | omega | decide)) (fun y28 s28 hy28 ry28 => ?_)
      refine xi_iastore (pc' := 11) (x' := y28) kc_12_10 rfl A25 rfl (xi_in (by decide) (by rw [hy25]; decide)) s28 (fun hh28 eh28 => ?_)
      have K29 := xk_pa K17 (xk_wa rfl) xD_140 hy28 ry28 eh28
      refine xi_iload_n (pc' := 12) (x := (-1)) kc_12_11 rfl rfl ?_
      refine xi_ireturn kc_12_12 mr_12 rfl ?_
      show xw J ov (d + 3) 30 (18, [(0, .ref 115), (1, .int x1), (2, .int x2), (3, .int x3), (4, .int x4)], [.int (-1)], hh28) _
      refine xi_ireturn kc_30_18 mr_30 rfl ?_
      have zcm1 : ((-1) : Int32).toInt = (-1) := by decide
      exact kk (-1) hh28 (by omega) K29
    · refine xi_cmf (pc' := 10) kc_11_7 rfl (xc_gt_f (X := x1.toInt) (Y := 11) rfl (by decide) (by omega)) ?_
      refine xi_iconst (pc' := 11) (v := 1) kc_11_10 rfl rfl ?_
      refine xi_goto (pc' := 15) kc_11_11 rfl ?_
      refine xi_ireturn kc_11_15 mr_11 rfl ?_
      show xw J ov (d + 1) 24 (7, [(0, .int x1)], [.int 1], hh16) _
      refine xi_ireturn kc_24_7 mr_24 rfl ?_
      show xw J ov (d + 2) 31 (4, [(0, .ref 115), (1, .int x1)], [.int 1], hh16) _
      refine xi_iff (pc' := 7) kc_31_4 rfl rfl ?_
      refine xi_aload_n (pc' := 8) (x := 115) kc_31_7 rfl rfl ?_
      refine xi_getfield (pc' := 11) (v := .ref 125) kc_31_8 rfl rfl rfl eh15.1 rfl ?_
      refine xi_iload_n (pc' := 12) (x := x1) kc_31_11 rfl rfl ?_
      refine xcps4 (xk_arr K17.1 xD_125) (fun y30 A30 hy30 ry30 => ?_)
      refine xcps4 (xj_get hy30 ry30 (i := x1) (by omega) (by omega)) (fun v31 ev31 bv31 dv31 => ?_)
      refine xi_iaload (pc' := 13) (v := v31) kc_31_12 rfl A30 (by decide) rfl (xi_in (by omega) (by rw [hy30]; omega)) ev31 ?_
      by_cases c32 : v31.toInt < 0
      · refine xi_ift (pc' := 20) kc_31_13 rfl (xc_lt_t (X := v31.toInt) (Y := 0) rfl (by decide) (by omega)) ?_
        refine xi_iconst (pc' := 21) (v := 0) kc_31_20 rfl rfl ?_
        refine xi_ireturn kc_31_21 mr_31 rfl ?_
        show xw J ov (d + 3) 30 (10, [(0, .ref 115), (1, .int x1), (2, .int x2), (3, .int x3), (4, .int x4)], [.int 0], hh16) _
        refine xi_iff (pc' := 13) kc_30_10 rfl rfl ?_
        refine xi_aload_n (pc' := 14) (x := 115) kc_30_13 rfl rfl ?_
        refine xi_iconst (pc' := 15) (v := (-1)) kc_30_14 rfl rfl ?_
        refine xi_virtual (mj := 12) (as := [.int (-1)]) (st1 := []) (lv0 := [(0, .ref 115), (1, .int (-1))]) kc_30_15 rfl rfl rfl rfl rfl eh15.1 (Nat.le_of_ble_eq_true rfl) (hJ _ _ _ _ (by decide)) (xm_le ml_12 rfl) rfl ?_
        refine xi_aload_n (pc' := 1) (x := 115) kc_12_0 rfl rfl ?_
        refine xi_getfield (pc' := 4) (v := .ref 140) kc_12_1 rfl rfl rfl eh15.1 rfl ?_
        refine xi_iload_n (pc' := 5) (x := (-1)) kc_12_4 rfl rfl ?_
        refine xi_ineg (pc' := 6) (v := 1) kc_12_5 rfl rfl ?_
        refine xi_dup2 (pc' := 7) kc_12_6 rfl ⟨rfl, rfl⟩ ?_
        refine xcps4 (xk_arr K17.1 xD_140) (fun y33 A33 hy33 ry33 => ?_)
        refine xcps4 (xj_get hy33 ry33 (i := 1) (by decide) (by decide)) (fun v34 ev34 bv34 dv34 => ?_)
        refine xi_iaload (pc' := 8) (v := v34) kc_12_7 rfl A33 (by decide) rfl (xi_in (by decide) (by rw [hy33]; decide)) ev34 ?_
        refine xi_iconst (pc' := 9) (v := 1) kc_12_8 rfl rfl ?_
        refine xcps2 (α := Int32) ((v34 : Int32) + 1) (fun v35 ev35 => ?_)
        have rv35 := xc_rng v35
        refine xi_iadd (pc' := 10) (v := v35) kc_12_9 rfl ev35 ?_
        refine xcps4 (xj_set (v := v35) hy33 ry33 1 (by first | omega | decide) (by first | omega | decide)) (fun y36 s36 hy36 ry36 => ?_)
        refine xi_iastore (pc' := 11) (x' := y36) kc_12_10 rfl A33 rfl (xi_in (by decide) (by rw [hy33]; decide)) s36 (fun hh36 eh36 => ?_)
        have K37 := xk_pa K17 (xk_wa rfl) xD_140 hy36 ry36 eh36
        refine xi_iload_n (pc' := 12) (x := (-1)) kc_12_11 rfl rfl ?_
        refine xi_ireturn kc_12_12 mr_12 rfl ?_
        show xw J ov (d + 3) 30 (18, [(0, .ref 115), (1, .int x1), (2, .int x2), (3, .int x3), (4, .int x4)], [.int (-1)], hh36) _
        refine xi_ireturn kc_30_18 mr_30 rfl ?_
        have zcm1 : ((-1) : Int32).toInt = (-1) := by decide
        exact kk (-1) hh36 (by omega) K37
      · refine xi_iff (pc' := 16) kc_31_13 rfl (xc_lt_f (X := v31.toInt) (Y := 0) rfl (by decide) (by omega)) ?_
        refine xi_iconst (pc' := 17) (v := 1) kc_31_16 rfl rfl ?_
        refine xi_goto (pc' := 21) kc_31_17 rfl ?_
        refine xi_ireturn kc_31_21 mr_31 rfl ?_
        show xw J ov (d + 3) 30 (10, [(0, .ref 115), (1, .int x1), (2, .int x2), (3, .int x3), (4, .int x4)], [.int 1], hh16) _
        refine xi_ift (pc' := 19) kc_30_10 rfl rfl ?_
        refine xi_iload_n (pc' := 20) (x := x2) kc_30_19 rfl rfl ?_
        refine xi_aload_n (pc' := 21) (x := 115) kc_30_20 rfl rfl ?_
        refine xi_getfield (pc' := 24) (v := .int u2) kc_30_21 rfl rfl rfl eh15.1 rfl ?_
        by_cases c38 : u2.toInt < x2.toInt
        · refine xi_cmt (pc' := 49) kc_30_24 rfl (xc_gt_t (X := x2.toInt) (Y := u2.toInt) rfl rfl (by omega)) ?_
          refine xi_aload_n (pc' := 50) (x := 115) kc_30_49 rfl rfl ?_
          refine xi_bipush (pc' := 52) (v := (-3)) kc_30_50 rfl rfl ?_
          refine xi_virtual (mj := 12) (as := [.int (-3)]) (st1 := []) (lv0 := [(0, .ref 115), (1, .int (-3))]) kc_30_52 rfl rfl rfl rfl rfl eh15.1 (Nat.le_of_ble_eq_true rfl) (hJ _ _ _ _ (by decide)) (xm_le ml_12 rfl) rfl ?_
          refine xi_aload_n (pc' := 1) (x := 115) kc_12_0 rfl rfl ?_
          refine xi_getfield (pc' := 4) (v := .ref 140) kc_12_1 rfl rfl rfl eh15.1 rfl ?_
          refine xi_iload_n (pc' := 5) (x := (-3)) kc_12_4 rfl rfl ?_
          refine xi_ineg (pc' := 6) (v := 3) kc_12_5 rfl rfl ?_
          refine xi_dup2 (pc' := 7) kc_12_6 rfl ⟨rfl, rfl⟩ ?_
          refine xcps4 (xk_arr K17.1 xD_140) (fun y39 A39 hy39 ry39 => ?_)
          refine xcps4 (xj_get hy39 ry39 (i := 3) (by decide) (by decide)) (fun v40 ev40 bv40 dv40 => ?_)
          refine xi_iaload (pc' := 8) (v := v40) kc_12_7 rfl A39 (by decide) rfl (xi_in (by decide) (by rw [hy39]; decide)) ev40 ?_
          refine xi_iconst (pc' := 9) (v := 1) kc_12_8 rfl rfl ?_
          refine xcps2 (α := Int32) ((v40 : Int32) + 1) (fun v41 ev41 => ?_)
          have rv41 := xc_rng v41
          refine xi_iadd (pc' := 10) (v := v41) kc_12_9 rfl ev41 ?_
          refine xcps4 (xj_set (v := v41) hy39 ry39 3 (by first | omega | decide) (by first | omega | decide)) (fun y42 s42 hy42 ry42 => ?_)
          refine xi_iastore (pc' := 11) (x' := y42) kc_12_10 rfl A39 rfl (xi_in (by decide) (by rw [hy39]; decide)) s42 (fun hh42 eh42 => ?_)
          have K43 := xk_pa K17 (xk_wa rfl) xD_140 hy42 ry42 eh42
          refine xi_iload_n (pc' := 12) (x := (-3)) kc_12_11 rfl rfl ?_
          refine xi_ireturn kc_12_12 mr_12 rfl ?_
          show xw J ov (d + 3) 30 (55, [(0, .ref 115), (1, .int x1), (2, .int x2), (3, .int x3), (4, .int x4)], [.int (-3)], hh42) _
          refine xi_ireturn kc_30_55 mr_30 rfl ?_
          have zcm3 : ((-3) : Int32).toInt = (-3) := by decide
          exact kk (-3) hh42 (by omega) K43
        · refine xi_cmf (pc' := 27) kc_30_24 rfl (xc_gt_f (X := x2.toInt) (Y := u2.toInt) rfl rfl (by omega)) ?_
          refine xi_aload_n (pc' := 28) (x := 115) kc_30_27 rfl rfl ?_
          refine xi_getfield (pc' := 31) (v := .int u4) kc_30_28 rfl rfl rfl eh15.1 rfl ?_
          by_cases c44 : u4.toInt ≤ 0
          · refine xi_ift (pc' := 56) kc_30_31 rfl (xc_le_t (X := u4.toInt) (Y := 0) rfl (by decide) (by omega)) ?_
            refine xi_iload_n (pc' := 57) (x := x2) kc_30_56 rfl rfl ?_
            by_cases c45 : x2.toInt < 0
            · refine xi_ift (pc' := 69) kc_30_57 rfl (xc_lt_t (X := x2.toInt) (Y := 0) rfl (by decide) (by omega)) ?_
              refine xi_aload_n (pc' := 70) (x := 115) kc_30_69 rfl rfl ?_
              refine xi_bipush (pc' := 72) (v := (-4)) kc_30_70 rfl rfl ?_
              refine xi_virtual (mj := 12) (as := [.int (-4)]) (st1 := []) (lv0 := [(0, .ref 115), (1, .int (-4))]) kc_30_72 rfl rfl rfl rfl rfl eh15.1 (Nat.le_of_ble_eq_true rfl) (hJ _ _ _ _ (by decide)) (xm_le ml_12 rfl) rfl ?_
              refine xi_aload_n (pc' := 1) (x := 115) kc_12_0 rfl rfl ?_
              refine xi_getfield (pc' := 4) (v := .ref 140) kc_12_1 rfl rfl rfl eh15.1 rfl ?_
              refine xi_iload_n (pc' := 5) (x := (-4)) kc_12_4 rfl rfl ?_
              refine xi_ineg (pc' := 6) (v := 4) kc_12_5 rfl rfl ?_
              refine xi_dup2 (pc' := 7) kc_12_6 rfl ⟨rfl, rfl⟩ ?_
              refine xcps4 (xk_arr K17.1 xD_140) (fun y46 A46 hy46 ry46 => ?_)
              refine xcps4 (xj_get hy46 ry46 (i := 4) (by decide) (by decide)) (fun v47 ev47 bv47 dv47 => ?_)
              refine xi_iaload (pc' := 8) (v := v47) kc_12_7 rfl A46 (by decide) rfl (xi_in (by decide) (by rw [hy46]; decide)) ev47 ?_
              refine xi_iconst (pc' := 9) (v := 1) kc_12_8 rfl rfl ?_
              refine xcps2 (α := Int32) ((v47 : Int32) + 1) (fun v48 ev48 => ?_)
              have rv48 := xc_rng v48
              refine xi_iadd (pc' := 10) (v := v48) kc_12_9 rfl ev48 ?_
              refine xcps4 (xj_set (v := v48) hy46 ry46 4 (by first | omega | decide) (by first | omega | decide)) (fun y49 s49 hy49 ry49 => ?_)
              refine xi_iastore (pc' := 11) (x' := y49) kc_12_10 rfl A46 rfl (xi_in (by decide) (by rw [hy46]; decide)) s49 (fun hh49 eh49 => ?_)
              have K50 := xk_pa K17 (xk_wa rfl) xD_140 hy49 ry49 eh49
              refine xi_iload_n (pc' := 12) (x := (-4)) kc_12_11 rfl rfl ?_
              refine xi_ireturn kc_12_12 mr_12 rfl ?_
              show xw J ov (d + 3) 30 (75, [(0, .ref 115), (1, .int x1), (2, .int x2), (3, .int x3), (4, .int x4)], [.int (-4)], hh49) _
              refine xi_ireturn kc_30_75 mr_30 rfl ?_
              have zcm4 : ((-4) : Int32).toInt = (-4) := by decide
              exact kk (-4) hh49 (by omega) K50
            · refine xi_iff (pc' := 60) kc_30_57 rfl (xc_lt_f (X := x2.toInt) (Y := 0) rfl (by decide) (by omega)) ?_
              refine xi_iload_n (pc' := 61) (x := x3) kc_30_60 rfl rfl ?_
              by_cases c51 : x3.toInt < 0
              · refine xi_ift (pc' := 69) kc_30_61 rfl (xc_lt_t (X := x3.toInt) (Y := 0) rfl (by decide) (by omega)) ?_
                refine xi_aload_n (pc' := 70) (x := 115) kc_30_69 rfl rfl ?_
                refine xi_bipush (pc' := 72) (v := (-4)) kc_30_70 rfl rfl ?_
                refine xi_virtual (mj := 12) (as := [.int (-4)]) (st1 := []) (lv0 := [(0, .ref 115), (1, .int (-4))]) kc_30_72 rfl rfl rfl rfl rfl eh15.1 (Nat.le_of_ble_eq_true rfl) (hJ _ _ _ _ (by decide)) (xm_le ml_12 rfl) rfl ?_
                refine xi_aload_n (pc' := 1) (x := 115) kc_12_0 rfl rfl ?_
                refine xi_getfield (pc' := 4) (v := .ref 140) kc_12_1 rfl rfl rfl eh15.1 rfl ?_
                refine xi_iload_n (pc' := 5) (x := (-4)) kc_12_4 rfl rfl ?_
                refine xi_ineg (pc' := 6) (v := 4) kc_12_5 rfl rfl ?_
                refine xi_dup2 (pc' := 7) kc_12_6 rfl ⟨rfl, rfl⟩ ?_
                refine xcps4 (xk_arr K17.1 xD_140) (fun y52 A52 hy52 ry52 => ?_)
                refine xcps4 (xj_get hy52 ry52 (i := 4) (by decide) (by decide)) (fun v53 ev53 bv53 dv53 => ?_)
                refine xi_iaload (pc' := 8) (v := v53) kc_12_7 rfl A52 (by decide) rfl (xi_in (by decide) (by rw [hy52]; decide)) ev53 ?_
                refine xi_iconst (pc' := 9) (v := 1) kc_12_8 rfl rfl ?_
                refine xcps2 (α := Int32) ((v53 : Int32) + 1) (fun v54 ev54 => ?_)
                have rv54 := xc_rng v54
                refine xi_iadd (pc' := 10) (v := v54) kc_12_9 rfl ev54 ?_
                refine xcps4 (xj_set (v := v54) hy52 ry52 4 (by first | omega | decide) (by first | omega | decide)) (fun y55 s55 hy55 ry55 => ?_)
                refine xi_iastore (pc' := 11) (x' := y55) kc_12_10 rfl A52 rfl (xi_in (by decide) (by rw [hy52]; decide)) s55 (fun hh55 eh55 => ?_)
                have K56 := xk_pa K17 (xk_wa rfl) xD_140 hy55 ry55 eh55
                refine xi_iload_n (pc' := 12) (x := (-4)) kc_12_11 rfl rfl ?_
                refine xi_ireturn kc_12_12 mr_12 rfl ?_
                show xw J ov (d + 3) 30 (75, [(0, .ref 115), (1, .int x1), (2, .int x2), (3, .int x3), (4, .int x4)], [.int (-4)], hh55) _
                refine xi_ireturn kc_30_75 mr_30 rfl ?_
                have zcm4 : ((-4) : Int32).toInt = (-4) := by decide
                exact kk (-4) hh55 (by omega) K56
              · refine xi_iff (pc' := 64) kc_30_61 rfl (xc_lt_f (X := x3.toInt) (Y := 0) rfl (by decide) (by omega)) ?_
                refine xi_iload (pc' := 66) (x := x4) kc_30_64 rfl rfl ?_
                by_cases c57 : 0 ≤ x4.toInt
                · refine xi_ift (pc' := 76) kc_30_66 rfl (xc_ge_t (X := x4.toInt) (Y := 0) rfl (by decide) (by omega)) ?_
                  refine xi_iload_n (pc' := 77) (x := x3) kc_30_76 rfl rfl ?_
                  refine xi_ldc (pc' := 79) (v := 99999) kc_30_77 rfl rfl ?_
                  by_cases c58 : 99999 < x3.toInt
                  · refine xi_cmt (pc' := 99) kc_30_79 rfl (xc_gt_t (X := x3.toInt) (Y := 99999) rfl (by decide) (by omega)) ?_
                    refine xi_aload_n (pc' := 100) (x := 115) kc_30_99 rfl rfl ?_
                    refine xi_bipush (pc' := 102) (v := (-6)) kc_30_100 rfl rfl ?_
                    refine xi_virtual (mj := 12) (as := [.int (-6)]) (st1 := []) (lv0 := [(0, .ref 115), (1, .int (-6))]) kc_30_102 rfl rfl rfl rfl rfl eh15.1 (Nat.le_of_ble_eq_true rfl) (hJ _ _ _ _ (by decide)) (xm_le ml_12 rfl) rfl ?_
                    refine xi_aload_n (pc' := 1) (x := 115) kc_12_0 rfl rfl ?_
                    refine xi_getfield (pc' := 4) (v := .ref 140) kc_12_1 rfl rfl rfl eh15.1 rfl ?_
                    refine xi_iload_n (pc' := 5) (x := (-6)) kc_12_4 rfl rfl ?_
                    refine xi_ineg (pc' := 6) (v := 6) kc_12_5 rfl rfl ?_
                    refine xi_dup2 (pc' := 7) kc_12_6 rfl ⟨rfl, rfl⟩ ?_
                    refine xcps4 (xk_arr K17.1 xD_140) (fun y59 A59 hy59 ry59 => ?_)
                    refine xcps4 (xj_get hy59 ry59 (i := 6) (by decide) (by decide)) (fun v60 ev60 bv60 dv60 => ?_)
                    refine xi_iaload (pc' := 8) (v := v60) kc_12_7 rfl A59 (by decide) rfl (xi_in (by decide) (by rw [hy59]; decide)) ev60 ?_
                    refine xi_iconst (pc' := 9) (v := 1) kc_12_8 rfl rfl ?_
                    refine xcps2 (α := Int32) ((v60 : Int32) + 1) (fun v61 ev61 => ?_)
                    have rv61 := xc_rng v61
                    refine xi_iadd (pc' := 10) (v := v61) kc_12_9 rfl ev61 ?_
                    refine xcps4 (xj_set (v := v61) hy59 ry59 6 (by first | omega | decide) (by first | omega | decide)) (fun y62 s62 hy62 ry62 => ?_)
                    refine xi_iastore (pc' := 11) (x' := y62) kc_12_10 rfl A59 rfl (xi_in (by decide) (by rw [hy59]; decide)) s62 (fun hh62 eh62 => ?_)
                    have K63 := xk_pa K17 (xk_wa rfl) xD_140 hy62 ry62 eh62
                    refine xi_iload_n (pc' := 12) (x := (-6)) kc_12_11 rfl rfl ?_
                    refine xi_ireturn kc_12_12 mr_12 rfl ?_
                    show xw J ov (d + 3) 30 (105, [(0, .ref 115), (1, .int x1), (2, .int x2), (3, .int x3), (4, .int x4)], [.int (-6)], hh62) _
                    refine xi_ireturn kc_30_105 mr_30 rfl ?_
                    have zcm6 : ((-6) : Int32).toInt = (-6) := by decide
                    exact kk (-6) hh62 (by omega) K63
                  · refine xi_cmf (pc' := 82) kc_30_79 rfl (xc_gt_f (X := x3.toInt) (Y := 99999) rfl (by decide) (by omega)) ?_
                    refine xi_iload (pc' := 84) (x := x4) kc_30_82 rfl rfl ?_
                    refine xi_sipush (pc' := 87) (v := 999) kc_30_84 rfl rfl ?_
                    by_cases c64 : 999 < x4.toInt
                    · refine xi_cmt (pc' := 99) kc_30_87 rfl (xc_gt_t (X := x4.toInt) (Y := 999) rfl (by decide) (by omega)) ?_
                      refine xi_aload_n (pc' := 100) (x := 115) kc_30_99 rfl rfl ?_
                      refine xi_bipush (pc' := 102) (v := (-6)) kc_30_100 rfl rfl ?_
                      refine xi_virtual (mj := 12) (as := [.int (-6)]) (st1 := []) (lv0 := [(0, .ref 115), (1, .int (-6))]) kc_30_102 rfl rfl rfl rfl rfl eh15.1 (Nat.le_of_ble_eq_true rfl) (hJ _ _ _ _ (by decide)) (xm_le ml_12 rfl) rfl ?_
                      refine xi_aload_n (pc' := 1) (x := 115) kc_12_0 rfl rfl ?_
                      refine xi_getfield (pc' := 4) (v := .ref 140) kc_12_1 rfl rfl rfl eh15.1 rfl ?_
                      refine xi_iload_n (pc' := 5) (x := (-6)) kc_12_4 rfl rfl ?_
                      refine xi_ineg (pc' := 6) (v := 6) kc_12_5 rfl rfl ?_
                      refine xi_dup2 (pc' := 7) kc_12_6 rfl ⟨rfl, rfl⟩ ?_
                      refine xcps4 (xk_arr K17.1 xD_140) (fun y65 A65 hy65 ry65 => ?_)
                      refine xcps4 (xj_get hy65 ry65 (i := 6) (by decide) (by decide)) (fun v66 ev66 bv66 dv66 => ?_)
                      refine xi_iaload (pc' := 8) (v := v66) kc_12_7 rfl A65 (by decide) rfl (xi_in (by decide) (by rw [hy65]; decide)) ev66 ?_
                      refine xi_iconst (pc' := 9) (v := 1) kc_12_8 rfl rfl ?_
                      refine xcps2 (α := Int32) ((v66 : Int32) + 1) (fun v67 ev67 => ?_)
                      have rv67 := xc_rng v67
                      refine xi_iadd (pc' := 10) (v := v67) kc_12_9 rfl ev67 ?_
                      refine xcps4 (xj_set (v := v67) hy65 ry65 6 (by first | omega | decide) (by first | omega | decide)) (fun y68 s68 hy68 ry68 => ?_)
                      refine xi_iastore (pc' := 11) (x' := y68) kc_12_10 rfl A65 rfl (xi_in (by decide) (by rw [hy65]; decide)) s68 (fun hh68 eh68 => ?_)
                      have K69 := xk_pa K17 (xk_wa rfl) xD_140 hy68 ry68 eh68
                      refine xi_iload_n (pc' := 12) (x := (-6)) kc_12_11 rfl rfl ?_
                      refine xi_ireturn kc_12_12 mr_12 rfl ?_
                      show xw J ov (d + 3) 30 (105, [(0, .ref 115), (1, .int x1), (2, .int x2), (3, .int x3), (4, .int x4)], [.int (-6)], hh68) _
                      refine xi_ireturn kc_30_105 mr_30 rfl ?_
                      have zcm6 : ((-6) : Int32).toInt = (-6) := by decide
                      exact kk (-6) hh68 (by omega) K69
                    · refine xi_cmf (pc' := 90) kc_30_87 rfl (xc_gt_f (X := x4.toInt) (Y := 999) rfl (by decide) (by omega)) ?_
                      refine xi_aload_n (pc' := 91) (x := 115) kc_30_90 rfl rfl ?_
                      refine xi_getfield (pc' := 94) (v := .int u4) kc_30_91 rfl rfl rfl eh15.1 rfl ?_
                      refine xi_bipush (pc' := 96) (v := 60) kc_30_94 rfl rfl ?_
                      refine xi_cmt (pc' := 106) kc_30_96 rfl (xc_ne_t (X := u4.toInt) (Y := 60) rfl (by decide) (by omega)) ?_
                      refine xi_aload_n (pc' := 107) (x := 115) kc_30_106 rfl rfl ?_
                      refine xi_getfield (pc' := 110) (v := .ref 131) kc_30_107 rfl rfl rfl eh15.1 rfl ?_
                      refine xi_aload_n (pc' := 111) (x := 115) kc_30_110 rfl rfl ?_
                      refine xi_getfield (pc' := 114) (v := .int u4) kc_30_111 rfl rfl rfl eh15.1 rfl ?_
                      refine xi_iload_n (pc' := 115) (x := x1) kc_30_114 rfl rfl ?_
                      refine xcps4 (xk_arr K17.1 xD_131) (fun y70 A70 hy70 ry70 => ?_)
                      refine xcps4 (xj_set (v := x1) hy70 ry70 u4 (by first | omega | decide) (by first | omega | decide)) (fun y71 s71 hy71 ry71 => ?_)
                      refine xi_iastore (pc' := 116) (x' := y71) kc_30_115 rfl A70 rfl (xi_in (by omega) (by rw [hy70]; omega)) s71 (fun hh71 eh71 => ?_)
                      have K72 := xk_pa K17 (xk_wa rfl) xD_131 hy71 ry71 eh71
                      refine xi_aload_n (pc' := 117) (x := 115) kc_30_116 rfl rfl ?_
                      have A73 := ((eh71.2.1 115 (by decide)).trans eh15.1)
                      refine xi_getfield (pc' := 120) (v := .ref 132) kc_30_117 rfl rfl rfl A73 rfl ?_
                      refine xi_aload_n (pc' := 121) (x := 115) kc_30_120 rfl rfl ?_
                      refine xi_getfield (pc' := 124) (v := .int u4) kc_30_121 rfl rfl rfl A73 rfl ?_
                      refine xi_iload_n (pc' := 125) (x := x2) kc_30_124 rfl rfl ?_
                      refine xcps4 (xk_arr K72.1 xD_132) (fun y74 A74 hy74 ry74 => ?_)
                      refine xcps4 (xj_set (v := x2) hy74 ry74 u4 (by first | omega | decide) (by first | omega | decide)) (fun y75 s75 hy75 ry75 => ?_)
                      refine xi_iastore (pc' := 126) (x' := y75) kc_30_125 rfl A74 rfl (xi_in (by omega) (by rw [hy74]; omega)) s75 (fun hh75 eh75 => ?_)
                      have K76 := xk_pa K72 (xk_wa rfl) xD_132 hy75 ry75 eh75
                      refine xi_aload_n (pc' := 127) (x := 115) kc_30_126 rfl rfl ?_
                      have A77 := ((eh75.2.1 115 (by decide)).trans A73)
                      refine xi_getfield (pc' := 130) (v := .ref 133) kc_30_127 rfl rfl rfl A77 rfl ?_
                      refine xi_aload_n (pc' := 131) (x := 115) kc_30_130 rfl rfl ?_
                      refine xi_getfield (pc' := 134) (v := .int u4) kc_30_131 rfl rfl rfl A77 rfl ?_
                      refine xi_iload_n (pc' := 135) (x := x3) kc_30_134 rfl rfl ?_
                      refine xcps4 (xk_arr K76.1 xD_133) (fun y78 A78 hy78 ry78 => ?_)
                      refine xcps4 (xj_set (v := x3) hy78 ry78 u4 (by first | omega | decide) (by first | omega | decide)) (fun y79 s79 hy79 ry79 => ?_)
                      refine xi_iastore (pc' := 136) (x' := y79) kc_30_135 rfl A78 rfl (xi_in (by omega) (by rw [hy78]; omega)) s79 (fun hh79 eh79 => ?_)
                      have K80 := xk_pa K76 (xk_wa rfl) xD_133 hy79 ry79 eh79
                      refine xi_aload_n (pc' := 137) (x := 115) kc_30_136 rfl rfl ?_
                      have A81 := ((eh79.2.1 115 (by decide)).trans A77)
                      refine xi_getfield (pc' := 140) (v := .ref 134) kc_30_137 rfl rfl rfl A81 rfl ?_
                      refine xi_aload_n (pc' := 141) (x := 115) kc_30_140 rfl rfl ?_
                      refine xi_getfield (pc' := 144) (v := .int u4) kc_30_141 rfl rfl rfl A81 rfl ?_
                      refine xi_iload (pc' := 146) (x := x4) kc_30_144 rfl rfl ?_
                      refine xcps4 (xk_arr K80.1 xD_134) (fun y82 A82 hy82 ry82 => ?_)
                      refine xcps4 (xj_set (v := x4) hy82 ry82 u4 (by first | omega | decide) (by first | omega | decide)) (fun y83 s83 hy83 ry83 => ?_)
                      refine xi_iastore (pc' := 147) (x' := y83) kc_30_146 rfl A82 rfl (xi_in (by omega) (by rw [hy82]; omega)) s83 (fun hh83 eh83 => ?_)
                      have K84 := xk_pa K80 (xk_wa rfl) xD_134 hy83 ry83 eh83
                      refine xi_aload_n (pc' := 148) (x := 115) kc_30_147 rfl rfl ?_
                      refine xi_dup (pc' := 149) kc_30_148 rfl rfl ?_
                      have A85 := ((eh83.2.1 115 (by decide)).trans A81)
                      refine xi_getfield (pc' := 152) (v := .int u4) kc_30_149 rfl rfl rfl A85 rfl ?_
                      refine xi_iconst (pc' := 153) (v := 1) kc_30_152 rfl rfl ?_
                      refine xcps2 (α := Int32) (u4 + 1) (fun v86 ev86 => ?_)
                      have zv86 : v86.toInt = (u4.toInt + 1) := by rw [← ev86]; exact (xz_add (X := u4.toInt) (Y := 1) rfl (by decide) (by omega) (by omega)).trans (by omega)
                      refine xi_iadd (pc' := 154) (v := v86) kc_30_153 rfl ev86 ?_
                      refine xi_putfield (pc' := 157) (fs' := [.int 0, .int u2, .ref 116, .ref 117, .ref 118, .ref 119, .ref 120, .ref 121, .ref 122, .ref 123, .ref 124, .ref 125, .ref 126, .ref 127, .ref 128, .ref 129, .int u3, .ref 130, .int v86, .ref 131, .ref 132, .ref 133, .ref 134, .int u5, .ref 135, .ref 136, .ref 137, .ref 138, .ref 139, .ref 140, .ref 141, .ref 142, .int u6, .int u7, .int u8, .ref 143, .ref 144, .ref 145, .ref 146, .ref 147, .ref 148, .int u9, .ref 149, .ref 150, .ref 151, .int u10, .ref 152, .ref 153, .ref 154, .ref 155, .ref 156, .ref 157, .ref 158, .ref 159, .int u11, .ref 160, .int u12, .ref 161, .ref 162, .ref 163, .ref 164, .int u13, .ref 165, .ref 166]) kc_30_154 rfl rfl rfl A85 rfl rfl rfl (Nat.le_of_ble_eq_true rfl) rfl (fun hh88 eh87 => ?_)
                      have K89 := xk_pf (k := 18) (v := v86) K84 (xk_wf rfl) xD_115 A85 rfl (by first | omega | decide) (by first | omega | decide) eh87 rfl
                      refine xi_aload_n (pc' := 158) (x := 115) kc_30_157 rfl rfl ?_
                      refine xi_iconst (pc' := 159) (v := 0) kc_30_158 rfl rfl ?_
                      refine xi_putfield (pc' := 162) (fs' := [.int 0, .int u2, .ref 116, .ref 117, .ref 118, .ref 119, .ref 120, .ref 121, .ref 122, .ref 123, .ref 124, .ref 125, .ref 126, .ref 127, .ref 128, .ref 129, .int u3, .ref 130, .int v86, .ref 131, .ref 132, .ref 133, .ref 134, .int u5, .ref 135, .ref 136, .ref 137, .ref 138, .ref 139, .ref 140, .ref 141, .ref 142, .int u6, .int u7, .int u8, .ref 143, .ref 144, .ref 145, .ref 146, .ref 147, .ref 148, .int 0, .ref 149, .ref 150, .ref 151, .int u10, .ref 152, .ref 153, .ref 154, .ref 155, .ref 156, .ref 157, .ref 158, .ref 159, .int u11, .ref 160, .int u12, .ref 161, .ref 162, .ref 163, .ref 164, .int u13, .ref 165, .ref 166]) kc_30_159 rfl rfl rfl eh87.1 rfl rfl rfl (Nat.le_of_ble_eq_true rfl) rfl (fun hh91 eh90 => ?_)
                      have K92 := xk_pf (k := 41) (v := 0) K89 (xk_wf rfl) xD_115 eh87.1 rfl (by first | omega | decide) (by first | omega | decide) eh90 rfl
                      refine xi_aload_n (pc' := 163) (x := 115) kc_30_162 rfl rfl ?_
                      refine xi_getfield (pc' := 166) (v := .int v86) kc_30_163 rfl rfl rfl eh90.1 rfl ?_
                      refine xi_iconst (pc' := 167) (v := 1) kc_30_166 rfl rfl ?_
                      refine xcps2 (α := Int32) (v86 - 1) (fun v93 ev93 => ?_)
                      have zv93 : v93.toInt = u4.toInt := by rw [← ev93]; exact (xz_sub (X := (u4.toInt + 1)) (Y := 1) zv86 (by decide) (by omega) (by omega)).trans (by omega)
                      refine xi_isub (pc' := 168) (v := v93) kc_30_167 rfl ev93 ?_
                      refine xi_ireturn kc_30_168 mr_30 rfl ?_
                      exact kk v93 hh91 (by omega) K92
                · refine xi_iff (pc' := 69) kc_30_66 rfl (xc_ge_f (X := x4.toInt) (Y := 0) rfl (by decide) (by omega)) ?_
                  refine xi_aload_n (pc' := 70) (x := 115) kc_30_69 rfl rfl ?_
                  refine xi_bipush (pc' := 72) (v := (-4)) kc_30_70 rfl rfl ?_
                  refine xi_virtual (mj := 12) (as := [.int (-4)]) (st1 := []) (lv0 := [(0, .ref 115), (1, .int (-4))]) kc_30_72 rfl rfl rfl rfl rfl eh15.1 (Nat.le_of_ble_eq_true rfl) (hJ _ _ _ _ (by decide)) (xm_le ml_12 rfl) rfl ?_
                  refine xi_aload_n (pc' := 1) (x := 115) kc_12_0 rfl rfl ?_
                  refine xi_getfield (pc' := 4) (v := .ref 140) kc_12_1 rfl rfl rfl eh15.1 rfl ?_
                  refine xi_iload_n (pc' := 5) (x := (-4)) kc_12_4 rfl rfl ?_
                  refine xi_ineg (pc' := 6) (v := 4) kc_12_5 rfl rfl ?_
                  refine xi_dup2 (pc' := 7) kc_12_6 rfl ⟨rfl, rfl⟩ ?_
                  refine xcps4 (xk_arr K17.1 xD_140) (fun y94 A94 hy94 ry94 => ?_)
                  refine xcps4 (xj_get hy94 ry94 (i := 4) (by decide) (by decide)) (fun v95 ev95 bv95 dv95 => ?_)
                  refine xi_iaload (pc' := 8) (v := v95) kc_12_7 rfl A94 (by decide) rfl (xi_in (by decide) (by rw [hy94]; decide)) ev95 ?_
                  refine xi_iconst (pc' := 9) (v := 1) kc_12_8 rfl rfl ?_
                  refine xcps2 (α := Int32) ((v95 : Int32) + 1) (fun v96 ev96 => ?_)
                  have rv96 := xc_rng v96
                  refine xi_iadd (pc' := 10) (v := v96) kc_12_9 rfl ev96 ?_
                  refine xcps4 (xj_set (v := v96) hy94 ry94 4 (by first | omega | decide) (by first | omega | decide)) (fun y97 s97 hy97 ry97 => ?_)
                  refine xi_iastore (pc' := 11) (x' := y97) kc_12_10 rfl A94 rfl (xi_in (by decide) (by rw [hy94]; decide)) s97 (fun hh97 eh97 => ?_)
                  have K98 := xk_pa K17 (xk_wa rfl) xD_140 hy97 ry97 eh97
                  refine xi_iload_n (pc' := 12) (x := (-4)) kc_12_11 rfl rfl ?_
                  refine xi_ireturn kc_12_12 mr_12 rfl ?_
                  show xw J ov (d + 3) 30 (75, [(0, .ref 115), (1, .int x1), (2, .int x2), (3, .int x3), (4, .int x4)], [.int (-4)], hh97) _
                  refine xi_ireturn kc_30_75 mr_30 rfl ?_
                  have zcm4 : ((-4) : Int32).toInt = (-4) := by decide
                  exact kk (-4) hh97 (by omega) K98
          · refine xi_iff (pc' := 34) kc_30_31 rfl (xc_le_f (X := u4.toInt) (Y := 0) rfl (by decide) (by omega)) ?_
            refine xi_iload_n (pc' := 35) (x := x2) kc_30_34 rfl rfl ?_
            refine xi_aload_n (pc' := 36) (x := 115) kc_30_35 rfl rfl ?_
            refine xi_getfield (pc' := 39) (v := .ref 132) kc_30_36 rfl rfl rfl eh15.1 rfl ?_
            refine xi_aload_n (pc' := 40) (x := 115) kc_30_39 rfl rfl ?_
            refine xi_getfield (pc' := 43) (v := .int u4) kc_30_40 rfl rfl rfl eh15.1 rfl ?_
            refine xi_iconst (pc' := 44) (v := 1) kc_30_43 rfl rfl ?_
            refine xcps2 (α := Int32) (u4 - 1) (fun v99 ev99 => ?_)
            have zv99 : v99.toInt = (u4.toInt + (-1)) := by rw [← ev99]; exact (xz_sub (X := u4.toInt) (Y := 1) rfl (by decide) (by omega) (by omega)).trans (by omega)
            refine xi_isub (pc' := 45) (v := v99) kc_30_44 rfl ev99 ?_
            refine xcps4 (xk_arr K17.1 xD_132) (fun y100 A100 hy100 ry100 => ?_)
            refine xcps4 (xj_get hy100 ry100 (i := v99) (by rw [zv99]; omega) (by rw [zv99]; omega)) (fun v101 ev101 bv101 dv101 => ?_)
            refine xi_iaload (pc' := 46) (v := v101) kc_30_45 rfl A100 (by decide) rfl (xi_in (by rw [zv99]; omega) (by rw [hy100]; rw [zv99]; omega)) ev101 ?_
            by_cases c102 : v101.toInt ≤ x2.toInt
            · refine xi_cmt (pc' := 56) kc_30_46 rfl (xc_ge_t (X := x2.toInt) (Y := v101.toInt) rfl rfl (by omega)) ?_
              refine xi_iload_n (pc' := 57) (x := x2) kc_30_56 rfl rfl ?_
              by_cases c103 : x2.toInt < 0
              · refine xi_ift (pc' := 69) kc_30_57 rfl (xc_lt_t (X := x2.toInt) (Y := 0) rfl (by decide) (by omega)) ?_
                refine xi_aload_n (pc' := 70) (x := 115) kc_30_69 rfl rfl ?_
                refine xi_bipush (pc' := 72) (v := (-4)) kc_30_70 rfl rfl ?_
                refine xi_virtual (mj := 12) (as := [.int (-4)]) (st1 := []) (lv0 := [(0, .ref 115), (1, .int (-4))]) kc_30_72 rfl rfl rfl rfl rfl eh15.1 (Nat.le_of_ble_eq_true rfl) (hJ _ _ _ _ (by decide)) (xm_le ml_12 rfl) rfl ?_
                refine xi_aload_n (pc' := 1) (x := 115) kc_12_0 rfl rfl ?_
                refine xi_getfield (pc' := 4) (v := .ref 140) kc_12_1 rfl rfl rfl eh15.1 rfl ?_
                refine xi_iload_n (pc' := 5) (x := (-4)) kc_12_4 rfl rfl ?_
                refine xi_ineg (pc' := 6) (v := 4) kc_12_5 rfl rfl ?_
                refine xi_dup2 (pc' := 7) kc_12_6 rfl ⟨rfl, rfl⟩ ?_
                refine xcps4 (xk_arr K17.1 xD_140) (fun y104 A104 hy104 ry104 => ?_)
                refine xcps4 (xj_get hy104 ry104 (i := 4) (by decide) (by decide)) (fun v105 ev105 bv105 dv105 => ?_)
                refine xi_iaload (pc' := 8) (v := v105) kc_12_7 rfl A104 (by decide) rfl (xi_in (by decide) (by rw [hy104]; decide)) ev105 ?_
                refine xi_iconst (pc' := 9) (v := 1) kc_12_8 rfl rfl ?_
                refine xcps2 (α := Int32) ((v105 : Int32) + 1) (fun v106 ev106 => ?_)
                have rv106 := xc_rng v106
                refine xi_iadd (pc' := 10) (v := v106) kc_12_9 rfl ev106 ?_
                refine xcps4 (xj_set (v := v106) hy104 ry104 4 (by first | omega | decide) (by first | omega | decide)) (fun y107 s107 hy107 ry107 => ?_)
                refine xi_iastore (pc' := 11) (x' := y107) kc_12_10 rfl A104 rfl (xi_in (by decide) (by rw [hy104]; decide)) s107 (fun hh107 eh107 => ?_)
                have K108 := xk_pa K17 (xk_wa rfl) xD_140 hy107 ry107 eh107
                refine xi_iload_n (pc' := 12) (x := (-4)) kc_12_11 rfl rfl ?_
                refine xi_ireturn kc_12_12 mr_12 rfl ?_
                show xw J ov (d + 3) 30 (75, [(0, .ref 115), (1, .int x1), (2, .int x2), (3, .int x3), (4, .int x4)], [.int (-4)], hh107) _
                refine xi_ireturn kc_30_75 mr_30 rfl ?_
                have zcm4 : ((-4) : Int32).toInt = (-4) := by decide
                exact kk (-4) hh107 (by omega) K108
              · refine xi_iff (pc' := 60) kc_30_57 rfl (xc_lt_f (X := x2.toInt) (Y := 0) rfl (by decide) (by omega)) ?_
                refine xi_iload_n (pc' := 61) (x := x3) kc_30_60 rfl rfl ?_
                by_cases c109 : x3.toInt < 0
                · refine xi_ift (pc' := 69) kc_30_61 rfl (xc_lt_t (X := x3.toInt) (Y := 0) rfl (by decide) (by omega)) ?_
                  refine xi_aload_n (pc' := 70) (x := 115) kc_30_69 rfl rfl ?_
                  refine xi_bipush (pc' := 72) (v := (-4)) kc_30_70 rfl rfl ?_
                  refine xi_virtual (mj := 12) (as := [.int (-4)]) (st1 := []) (lv0 := [(0, .ref 115), (1, .int (-4))]) kc_30_72 rfl rfl rfl rfl rfl eh15.1 (Nat.le_of_ble_eq_true rfl) (hJ _ _ _ _ (by decide)) (xm_le ml_12 rfl) rfl ?_
                  refine xi_aload_n (pc' := 1) (x := 115) kc_12_0 rfl rfl ?_
                  refine xi_getfield (pc' := 4) (v := .ref 140) kc_12_1 rfl rfl rfl eh15.1 rfl ?_
                  refine xi_iload_n (pc' := 5) (x := (-4)) kc_12_4 rfl rfl ?_
                  refine xi_ineg (pc' := 6) (v := 4) kc_12_5 rfl rfl ?_
                  refine xi_dup2 (pc' := 7) kc_12_6 rfl ⟨rfl, rfl⟩ ?_
                  refine xcps4 (xk_arr K17.1 xD_140) (fun y110 A110 hy110 ry110 => ?_)
                  refine xcps4 (xj_get hy110 ry110 (i := 4) (by decide) (by decide)) (fun v111 ev111 bv111 dv111 => ?_)
                  refine xi_iaload (pc' := 8) (v := v111) kc_12_7 rfl A110 (by decide) rfl (xi_in (by decide) (by rw [hy110]; decide)) ev111 ?_
                  refine xi_iconst (pc' := 9) (v := 1) kc_12_8 rfl rfl ?_
                  refine xcps2 (α := Int32) ((v111 : Int32) + 1) (fun v112 ev112 => ?_)
                  have rv112 := xc_rng v112
                  refine xi_iadd (pc' := 10) (v := v112) kc_12_9 rfl ev112 ?_
                  refine xcps4 (xj_set (v := v112) hy110 ry110 4 (by first | omega | decide) (by first | omega | decide)) (fun y113 s113 hy113 ry113 => ?_)
                  refine xi_iastore (pc' := 11) (x' := y113) kc_12_10 rfl A110 rfl (xi_in (by decide) (by rw [hy110]; decide)) s113 (fun hh113 eh113 => ?_)
                  have K114 := xk_pa K17 (xk_wa rfl) xD_140 hy113 ry113 eh113
                  refine xi_iload_n (pc' := 12) (x := (-4)) kc_12_11 rfl rfl ?_
                  refine xi_ireturn kc_12_12 mr_12 rfl ?_
                  show xw J ov (d + 3) 30 (75, [(0, .ref 115), (1, .int x1), (2, .int x2), (3, .int x3), (4, .int x4)], [.int (-4)], hh113) _
                  refine xi_ireturn kc_30_75 mr_30 rfl ?_
                  have zcm4 : ((-4) : Int32).toInt = (-4) := by decide
                  exact kk (-4) hh113 (by omega) K114
                · refine xi_iff (pc' := 64) kc_30_61 rfl (xc_lt_f (X := x3.toInt) (Y := 0) rfl (by decide) (by omega)) ?_
                  refine xi_iload (pc' := 66) (x := x4) kc_30_64 rfl rfl ?_
                  by_cases c115 : 0 ≤ x4.toInt
                  · refine xi_ift (pc' := 76) kc_30_66 rfl (xc_ge_t (X := x4.toInt) (Y := 0) rfl (by decide) (by omega)) ?_
                    refine xi_iload_n (pc' := 77) (x := x3) kc_30_76 rfl rfl ?_
                    refine xi_ldc (pc' := 79) (v := 99999) kc_30_77 rfl rfl ?_
                    by_cases c116 : 99999 < x3.toInt
                    · refine xi_cmt (pc' := 99) kc_30_79 rfl (xc_gt_t (X := x3.toInt) (Y := 99999) rfl (by decide) (by omega)) ?_
                      refine xi_aload_n (pc' := 100) (x := 115) kc_30_99 rfl rfl ?_
                      refine xi_bipush (pc' := 102) (v := (-6)) kc_30_100 rfl rfl ?_
                      refine xi_virtual (mj := 12) (as := [.int (-6)]) (st1 := []) (lv0 := [(0, .ref 115), (1, .int (-6))]) kc_30_102 rfl rfl rfl rfl rfl eh15.1 (Nat.le_of_ble_eq_true rfl) (hJ _ _ _ _ (by decide)) (xm_le ml_12 rfl) rfl ?_
                      refine xi_aload_n (pc' := 1) (x := 115) kc_12_0 rfl rfl ?_
                      refine xi_getfield (pc' := 4) (v := .ref 140) kc_12_1 rfl rfl rfl eh15.1 rfl ?_
                      refine xi_iload_n (pc' := 5) (x := (-6)) kc_12_4 rfl rfl ?_
                      refine xi_ineg (pc' := 6) (v := 6) kc_12_5 rfl rfl ?_
                      refine xi_dup2 (pc' := 7) kc_12_6 rfl ⟨rfl, rfl⟩ ?_
                      refine xcps4 (xk_arr K17.1 xD_140) (fun y117 A117 hy117 ry117 => ?_)
                      refine xcps4 (xj_get hy117 ry117 (i := 6) (by decide) (by decide)) (fun v118 ev118 bv118 dv118 => ?_)
                      refine xi_iaload (pc' := 8) (v := v118) kc_12_7 rfl A117 (by decide) rfl (xi_in (by decide) (by rw [hy117]; decide)) ev118 ?_
                      refine xi_iconst (pc' := 9) (v := 1) kc_12_8 rfl rfl ?_
                      refine xcps2 (α := Int32) ((v118 : Int32) + 1) (fun v119 ev119 => ?_)
                      have rv119 := xc_rng v119
                      refine xi_iadd (pc' := 10) (v := v119) kc_12_9 rfl ev119 ?_
                      refine xcps4 (xj_set (v := v119) hy117 ry117 6 (by first | omega | decide) (by first | omega | decide)) (fun y120 s120 hy120 ry120 => ?_)
                      refine xi_iastore (pc' := 11) (x' := y120) kc_12_10 rfl A117 rfl (xi_in (by decide) (by rw [hy117]; decide)) s120 (fun hh120 eh120 => ?_)
                      have K121 := xk_pa K17 (xk_wa rfl) xD_140 hy120 ry120 eh120
                      refine xi_iload_n (pc' := 12) (x := (-6)) kc_12_11 rfl rfl ?_
                      refine xi_ireturn kc_12_12 mr_12 rfl ?_
                      show xw J ov (d + 3) 30 (105, [(0, .ref 115), (1, .int x1), (2, .int x2), (3, .int x3), (4, .int x4)], [.int (-6)], hh120) _
                      refine xi_ireturn kc_30_105 mr_30 rfl ?_
                      have zcm6 : ((-6) : Int32).toInt = (-6) := by decide
                      exact kk (-6) hh120 (by omega) K121
                    · refine xi_cmf (pc' := 82) kc_30_79 rfl (xc_gt_f (X := x3.toInt) (Y := 99999) rfl (by decide) (by omega)) ?_
                      refine xi_iload (pc' := 84) (x := x4) kc_30_82 rfl rfl ?_
                      refine xi_sipush (pc' := 87) (v := 999) kc_30_84 rfl rfl ?_
                      by_cases c122 : 999 < x4.toInt
                      · refine xi_cmt (pc' := 99) kc_30_87 rfl (xc_gt_t (X := x4.toInt) (Y := 999) rfl (by decide) (by omega)) ?_
                        refine xi_aload_n (pc' := 100) (x := 115) kc_30_99 rfl rfl ?_
                        refine xi_bipush (pc' := 102) (v := (-6)) kc_30_100 rfl rfl ?_
                        refine xi_virtual (mj := 12) (as := [.int (-6)]) (st1 := []) (lv0 := [(0, .ref 115), (1, .int (-6))]) kc_30_102 rfl rfl rfl rfl rfl eh15.1 (Nat.le_of_ble_eq_true rfl) (hJ _ _ _ _ (by decide)) (xm_le ml_12 rfl) rfl ?_
                        refine xi_aload_n (pc' := 1) (x := 115) kc_12_0 rfl rfl ?_
                        refine xi_getfield (pc' := 4) (v := .ref 140) kc_12_1 rfl rfl rfl eh15.1 rfl ?_
                        refine xi_iload_n (pc' := 5) (x := (-6)) kc_12_4 rfl rfl ?_
                        refine xi_ineg (pc' := 6) (v := 6) kc_12_5 rfl rfl ?_
                        refine xi_dup2 (pc' := 7) kc_12_6 rfl ⟨rfl, rfl⟩ ?_
                        refine xcps4 (xk_arr K17.1 xD_140) (fun y123 A123 hy123 ry123 => ?_)
                        refine xcps4 (xj_get hy123 ry123 (i := 6) (by decide) (by decide)) (fun v124 ev124 bv124 dv124 => ?_)
                        refine xi_iaload (pc' := 8) (v := v124) kc_12_7 rfl A123 (by decide) rfl (xi_in (by decide) (by rw [hy123]; decide)) ev124 ?_
                        refine xi_iconst (pc' := 9) (v := 1) kc_12_8 rfl rfl ?_
                        refine xcps2 (α := Int32) ((v124 : Int32) + 1) (fun v125 ev125 => ?_)
                        have rv125 := xc_rng v125
                        refine xi_iadd (pc' := 10) (v := v125) kc_12_9 rfl ev125 ?_
                        refine xcps4 (xj_set (v := v125) hy123 ry123 6 (by first | omega | decide) (by first | omega | decide)) (fun y126 s126 hy126 ry126 => ?_)
                        refine xi_iastore (pc' := 11) (x' := y126) kc_12_10 rfl A123 rfl (xi_in (by decide) (by rw [hy123]; decide)) s126 (fun hh126 eh126 => ?_)
                        have K127 := xk_pa K17 (xk_wa rfl) xD_140 hy126 ry126 eh126
                        refine xi_iload_n (pc' := 12) (x := (-6)) kc_12_11 rfl rfl ?_
                        refine xi_ireturn kc_12_12 mr_12 rfl ?_
                        show xw J ov (d + 3) 30 (105, [(0, .ref 115), (1, .int x1), (2, .int x2), (3, .int x3), (4, .int x4)], [.int (-6)], hh126) _
                        refine xi_ireturn kc_30_105 mr_30 rfl ?_
                        have zcm6 : ((-6) : Int32).toInt = (-6) := by decide
                        exact kk (-6) hh126 (by omega) K127
                      · refine xi_cmf (pc' := 90) kc_30_87 rfl (xc_gt_f (X := x4.toInt) (Y := 999) rfl (by decide) (by omega)) ?_
                        refine xi_aload_n (pc' := 91) (x := 115) kc_30_90 rfl rfl ?_
                        refine xi_getfield (pc' := 94) (v := .int u4) kc_30_91 rfl rfl rfl eh15.1 rfl ?_
                        refine xi_bipush (pc' := 96) (v := 60) kc_30_94 rfl rfl ?_
                        by_cases c128 : u4.toInt = 60
                        · refine xi_cmf (pc' := 99) kc_30_96 rfl (xc_ne_f (X := u4.toInt) (Y := 60) rfl (by decide) (by omega)) ?_
                          refine xi_aload_n (pc' := 100) (x := 115) kc_30_99 rfl rfl ?_
                          refine xi_bipush (pc' := 102) (v := (-6)) kc_30_100 rfl rfl ?_
                          refine xi_virtual (mj := 12) (as := [.int (-6)]) (st1 := []) (lv0 := [(0, .ref 115), (1, .int (-6))]) kc_30_102 rfl rfl rfl rfl rfl eh15.1 (Nat.le_of_ble_eq_true rfl) (hJ _ _ _ _ (by decide)) (xm_le ml_12 rfl) rfl ?_
                          refine xi_aload_n (pc' := 1) (x := 115) kc_12_0 rfl rfl ?_
                          refine xi_getfield (pc' := 4) (v := .ref 140) kc_12_1 rfl rfl rfl eh15.1 rfl ?_
                          refine xi_iload_n (pc' := 5) (x := (-6)) kc_12_4 rfl rfl ?_
                          refine xi_ineg (pc' := 6) (v := 6) kc_12_5 rfl rfl ?_
                          refine xi_dup2 (pc' := 7) kc_12_6 rfl ⟨rfl, rfl⟩ ?_
                          refine xcps4 (xk_arr K17.1 xD_140) (fun y129 A129 hy129 ry129 => ?_)
                          refine xcps4 (xj_get hy129 ry129 (i := 6) (by decide) (by decide)) (fun v130 ev130 bv130 dv130 => ?_)
                          refine xi_iaload (pc' := 8) (v := v130) kc_12_7 rfl A129 (by decide) rfl (xi_in (by decide) (by rw [hy129]; decide)) ev130 ?_
                          refine xi_iconst (pc' := 9) (v := 1) kc_12_8 rfl rfl ?_
                          refine xcps2 (α := Int32) ((v130 : Int32) + 1) (fun v131 ev131 => ?_)
                          have rv131 := xc_rng v131
                          refine xi_iadd (pc' := 10) (v := v131) kc_12_9 rfl ev131 ?_
                          refine xcps4 (xj_set (v := v131) hy129 ry129 6 (by first | omega | decide) (by first | omega | decide)) (fun y132 s132 hy132 ry132 => ?_)
                          refine xi_iastore (pc' := 11) (x' := y132) kc_12_10 rfl A129 rfl (xi_in (by decide) (by rw [hy129]; decide)) s132 (fun hh132 eh132 => ?_)
                          have K133 := xk_pa K17 (xk_wa rfl) xD_140 hy132 ry132 eh132
                          refine xi_iload_n (pc' := 12) (x := (-6)) kc_12_11 rfl rfl ?_
                          refine xi_ireturn kc_12_12 mr_12 rfl ?_
                          show xw J ov (d + 3) 30 (105, [(0, .ref 115), (1, .int x1), (2, .int x2), (3, .int x3), (4, .int x4)], [.int (-6)], hh132) _
                          refine xi_ireturn kc_30_105 mr_30 rfl ?_
                          have zcm6 : ((-6) : Int32).toInt = (-6) := by decide
                          exact kk (-6) hh132 (by omega) K133
                        · refine xi_cmt (pc' := 106) kc_30_96 rfl (xc_ne_t (X := u4.toInt) (Y := 60) rfl (by decide) (by omega)) ?_
                          refine xi_aload_n (pc' := 107) (x := 115) kc_30_106 rfl rfl ?_
                          refine xi_getfield (pc' := 110) (v := .ref 131) kc_30_107 rfl rfl rfl eh15.1 rfl ?_
                          refine xi_aload_n (pc' := 111) (x := 115) kc_30_110 rfl rfl ?_
                          refine xi_getfield (pc' := 114) (v := .int u4) kc_30_111 rfl rfl rfl eh15.1 rfl ?_
                          refine xi_iload_n (pc' := 115) (x := x1) kc_30_114 rfl rfl ?_
                          refine xcps4 (xk_arr K17.1 xD_131) (fun y134 A134 hy134 ry134 => ?_)
                          refine xcps4 (xj_set (v := x1) hy134 ry134 u4 (by first | omega | decide) (by first | omega | decide)) (fun y135 s135 hy135 ry135 => ?_)
                          refine xi_iastore (pc' := 116) (x' := y135) kc_30_115 rfl A134 rfl (xi_in (by omega) (by rw [hy134]; omega)) s135 (fun hh135 eh135 => ?_)
                          have K136 := xk_pa K17 (xk_wa rfl) xD_131 hy135 ry135 eh135
                          refine xi_aload_n (pc' := 117) (x := 115) kc_30_116 rfl rfl ?_
                          have A137 := ((eh135.2.1 115 (by decide)).trans eh15.1)
                          refine xi_getfield (pc' := 120) (v := .ref 132) kc_30_117 rfl rfl rfl A137 rfl ?_
                          refine xi_aload_n (pc' := 121) (x := 115) kc_30_120 rfl rfl ?_
                          refine xi_getfield (pc' := 124) (v := .int u4) kc_30_121 rfl rfl rfl A137 rfl ?_
                          refine xi_iload_n (pc' := 125) (x := x2) kc_30_124 rfl rfl ?_
                          have A138 := ((eh135.2.1 132 (by decide)).trans A100)
                          refine xcps4 (xj_set (v := x2) hy100 ry100 u4 (by first | omega | decide) (by first | omega | decide)) (fun y139 s139 hy139 ry139 => ?_)
                          refine xi_iastore (pc' := 126) (x' := y139) kc_30_125 rfl A138 rfl (xi_in (by omega) (by rw [hy100]; omega)) s139 (fun hh139 eh139 => ?_)
                          have K140 := xk_pa K136 (xk_wa rfl) xD_132 hy139 ry139 eh139
                          refine xi_aload_n (pc' := 127) (x := 115) kc_30_126 rfl rfl ?_
                          have A141 := ((eh139.2.1 115 (by decide)).trans A137)
                          refine xi_getfield (pc' := 130) (v := .ref 133) kc_30_127 rfl rfl rfl A141 rfl ?_
                          refine xi_aload_n (pc' := 131) (x := 115) kc_30_130 rfl rfl ?_
                          refine xi_getfield (pc' := 134) (v := .int u4) kc_30_131 rfl rfl rfl A141 rfl ?_
                          refine xi_iload_n (pc' := 135) (x := x3) kc_30_134 rfl rfl ?_
                          refine xcps4 (xk_arr K140.1 xD_133) (fun y142 A142 hy142 ry142 => ?_)
                          refine xcps4 (xj_set (v := x3) hy142 ry142 u4 (by first | omega | decide) (by first | omega | decide)) (fun y143 s143 hy143 ry143 => ?_)
                          refine xi_iastore (pc' := 136) (x' := y143) kc_30_135 rfl A142 rfl (xi_in (by omega) (by rw [hy142]; omega)) s143 (fun hh143 eh143 => ?_)
                          have K144 := xk_pa K140 (xk_wa rfl) xD_133 hy143 ry143 eh143
                          refine xi_aload_n (pc' := 137) (x := 115) kc_30_136 rfl rfl ?_
                          have A145 := ((eh143.2.1 115 (by decide)).trans A141)
                          refine xi_getfield (pc' := 140) (v := .ref 134) kc_30_137 rfl rfl rfl A145 rfl ?_
                          refine xi_aload_n (pc' := 141) (x := 115) kc_30_140 rfl rfl ?_
                          refine xi_getfield (pc' := 144) (v := .int u4) kc_30_141 rfl rfl rfl A145 rfl ?_
                          refine xi_iload (pc' := 146) (x := x4) kc_30_144 rfl rfl ?_
                          refine xcps4 (xk_arr K144.1 xD_134) (fun y146 A146 hy146 ry146 => ?_)
                          refine xcps4 (xj_set (v := x4) hy146 ry146 u4 (by first | omega | decide) (by first | omega | decide)) (fun y147 s147 hy147 ry147 => ?_)
                          refine xi_iastore (pc' := 147) (x' := y147) kc_30_146 rfl A146 rfl (xi_in (by omega) (by rw [hy146]; omega)) s147 (fun hh147 eh147 => ?_)
                          have K148 := xk_pa K144 (xk_wa rfl) xD_134 hy147 ry147 eh147
                          refine xi_aload_n (pc' := 148) (x := 115) kc_30_147 rfl rfl ?_
                          refine xi_dup (pc' := 149) kc_30_148 rfl rfl ?_
                          have A149 := ((eh147.2.1 115 (by decide)).trans A145)
                          refine xi_getfield (pc' := 152) (v := .int u4) kc_30_149 rfl rfl rfl A149 rfl ?_
                          refine xi_iconst (pc' := 153) (v := 1) kc_30_152 rfl rfl ?_
                          refine xcps2 (α := Int32) (u4 + 1) (fun v150 ev150 => ?_)
                          have zv150 : v150.toInt = (u4.toInt + 1) := by rw [← ev150]; exact (xz_add (X := u4.toInt) (Y := 1) rfl (by decide) (by omega) (by omega)).trans (by omega)
                          refine xi_iadd (pc' := 154) (v := v150) kc_30_153 rfl ev150 ?_
                          refine xi_putfield (pc' := 157) (fs' := [.int 0, .int u2, .ref 116, .ref 117, .ref 118, .ref 119, .ref 120, .ref 121, .ref 122, .ref 123, .ref 124, .ref 125, .ref 126, .ref 127, .ref 128, .ref 129, .int u3, .ref 130, .int v150, .ref 131, .ref 132, .ref 133, .ref 134, .int u5, .ref 135, .ref 136, .ref 137, .ref 138, .ref 139, .ref 140, .ref 141, .ref 142, .int u6, .int u7, .int u8, .ref 143, .ref 144, .ref 145, .ref 146, .ref 147, .ref 148, .int u9, .ref 149, .ref 150, .ref 151, .int u10, .ref 152, .ref 153, .ref 154, .ref 155, .ref 156, .ref 157, .ref 158, .ref 159, .int u11, .ref 160, .int u12, .ref 161, .ref 162, .ref 163, .ref 164, .int u13, .ref 165, .ref 166]) kc_30_154 rfl rfl rfl A149 rfl rfl rfl (Nat.le_of_ble_eq_true rfl) rfl (fun hh152 eh151 => ?_)
                          have K153 := xk_pf (k := 18) (v := v150) K148 (xk_wf rfl) xD_115 A149 rfl (by first | omega | decide) (by first | omega | decide) eh151 rfl
                          refine xi_aload_n (pc' := 158) (x := 115) kc_30_157 rfl rfl ?_
                          refine xi_iconst (pc' := 159) (v := 0) kc_30_158 rfl rfl ?_
                          refine xi_putfield (pc' := 162) (fs' := [.int 0, .int u2, .ref 116, .ref 117, .ref 118, .ref 119, .ref 120, .ref 121, .ref 122, .ref 123, .ref 124, .ref 125, .ref 126, .ref 127, .ref 128, .ref 129, .int u3, .ref 130, .int v150, .ref 131, .ref 132, .ref 133, .ref 134, .int u5, .ref 135, .ref 136, .ref 137, .ref 138, .ref 139, .ref 140, .ref 141, .ref 142, .int u6, .int u7, .int u8, .ref 143, .ref 144, .ref 145, .ref 146, .ref 147, .ref 148, .int 0, .ref 149, .ref 150, .ref 151, .int u10, .ref 152, .ref 153, .ref 154, .ref 155, .ref 156, .ref 157, .ref 158, .ref 159, .int u11, .ref 160, .int u12, .ref 161, .ref 162, .ref 163, .ref 164, .int u13, .ref 165, .ref 166]) kc_30_159 rfl rfl rfl eh151.1 rfl rfl rfl (Nat.le_of_ble_eq_true rfl) rfl (fun hh155 eh154 => ?_)
                          have K156 := xk_pf (k := 41) (v := 0) K153 (xk_wf rfl) xD_115 eh151.1 rfl (by first | omega | decide) (by first | omega | decide) eh154 rfl
                          refine xi_aload_n (pc' := 163) (x := 115) kc_30_162 rfl rfl ?_
                          refine xi_getfield (pc' := 166) (v := .int v150) kc_30_163 rfl rfl rfl eh154.1 rfl ?_
                          refine xi_iconst (pc' := 167) (v := 1) kc_30_166 rfl rfl ?_
                          refine xcps2 (α := Int32) (v150 - 1) (fun v157 ev157 => ?_)
                          have zv157 : v157.toInt = u4.toInt := by rw [← ev157]; exact (xz_sub (X := (u4.toInt + 1)) (Y := 1) zv150 (by decide) (by omega) (by omega)).trans (by omega)
                          refine xi_isub (pc' := 168) (v := v157) kc_30_167 rfl ev157 ?_
                          refine xi_ireturn kc_30_168 mr_30 rfl ?_
                          exact kk v157 hh155 (by omega) K156
                  · refine xi_iff (pc' := 69) kc_30_66 rfl (xc_ge_f (X := x4.toInt) (Y := 0) rfl (by decide) (by omega)) ?_
                    refine xi_aload_n (pc' := 70) (x := 115) kc_30_69 rfl rfl ?_
                    refine xi_bipush (pc' := 72) (v := (-4)) kc_30_70 rfl rfl ?_
                    refine xi_virtual (mj := 12) (as := [.int (-4)]) (st1 := []) (lv0 := [(0, .ref 115), (1, .int (-4))]) kc_30_72 rfl rfl rfl rfl rfl eh15.1 (Nat.le_of_ble_eq_true rfl) (hJ _ _ _ _ (by decide)) (xm_le ml_12 rfl) rfl ?_
                    refine xi_aload_n (pc' := 1) (x := 115) kc_12_0 rfl rfl ?_
                    refine xi_getfield (pc' := 4) (v := .ref 140) kc_12_1 rfl rfl rfl eh15.1 rfl ?_
                    refine xi_iload_n (pc' := 5) (x := (-4)) kc_12_4 rfl rfl ?_
                    refine xi_ineg (pc' := 6) (v := 4) kc_12_5 rfl rfl ?_
                    refine xi_dup2 (pc' := 7) kc_12_6 rfl ⟨rfl, rfl⟩ ?_
                    refine xcps4 (xk_arr K17.1 xD_140) (fun y158 A158 hy158 ry158 => ?_)
                    refine xcps4 (xj_get hy158 ry158 (i := 4) (by decide) (by decide)) (fun v159 ev159 bv159 dv159 => ?_)
                    refine xi_iaload (pc' := 8) (v := v159) kc_12_7 rfl A158 (by decide) rfl (xi_in (by decide) (by rw [hy158]; decide)) ev159 ?_
                    refine xi_iconst (pc' := 9) (v := 1) kc_12_8 rfl rfl ?_
                    refine xcps2 (α := Int32) ((v159 : Int32) + 1) (fun v160 ev160 => ?_)
                    have rv160 := xc_rng v160
                    refine xi_iadd (pc' := 10) (v := v160) kc_12_9 rfl ev160 ?_
                    refine xcps4 (xj_set (v := v160) hy158 ry158 4 (by first | omega | decide) (by first | omega | decide)) (fun y161 s161 hy161 ry161 => ?_)
                    refine xi_iastore (pc' := 11) (x' := y161) kc_12_10 rfl A158 rfl (xi_in (by decide) (by rw [hy158]; decide)) s161 (fun hh161 eh161 => ?_)
                    have K162 := xk_pa K17 (xk_wa rfl) xD_140 hy161 ry161 eh161
                    refine xi_iload_n (pc' := 12) (x := (-4)) kc_12_11 rfl rfl ?_
                    refine xi_ireturn kc_12_12 mr_12 rfl ?_
                    show xw J ov (d + 3) 30 (75, [(0, .ref 115), (1, .int x1), (2, .int x2), (3, .int x3), (4, .int x4)], [.int (-4)], hh161) _
                    refine xi_ireturn kc_30_75 mr_30 rfl ?_
                    have zcm4 : ((-4) : Int32).toInt = (-4) := by decide
                    exact kk (-4) hh161 (by omega) K162
            · refine xi_cmf (pc' := 49) kc_30_46 rfl (xc_ge_f (X := x2.toInt) (Y := v101.toInt) rfl rfl (by omega)) ?_
              refine xi_aload_n (pc' := 50) (x := 115) kc_30_49 rfl rfl ?_
              refine xi_bipush (pc' := 52) (v := (-3)) kc_30_50 rfl rfl ?_
              refine xi_virtual (mj := 12) (as := [.int (-3)]) (st1 := []) (lv0 := [(0, .ref 115), (1, .int (-3))]) kc_30_52 rfl rfl rfl rfl rfl eh15.1 (Nat.le_of_ble_eq_true rfl) (hJ _ _ _ _ (by decide)) (xm_le ml_12 rfl) rfl ?_
              refine xi_aload_n (pc' := 1) (x := 115) kc_12_0 rfl rfl ?_
              refine xi_getfield (pc' := 4) (v := .ref 140) kc_12_1 rfl rfl rfl eh15.1 rfl ?_
              refine xi_iload_n (pc' := 5) (x := (-3)) kc_12_4 rfl rfl ?_
              refine xi_ineg (pc' := 6) (v := 3) kc_12_5 rfl rfl ?_
              refine xi_dup2 (pc' := 7) kc_12_6 rfl ⟨rfl, rfl⟩ ?_
              refine xcps4 (xk_arr K17.1 xD_140) (fun y163 A163 hy163 ry163 => ?_)
              refine xcps4 (xj_get hy163 ry163 (i := 3) (by decide) (by decide)) (fun v164 ev164 bv164 dv164 => ?_)
              refine xi_iaload (pc' := 8) (v := v164) kc_12_7 rfl A163 (by decide) rfl (xi_in (by decide) (by rw [hy163]; decide)) ev164 ?_
              refine xi_iconst (pc' := 9) (v := 1) kc_12_8 rfl rfl ?_
              refine xcps2 (α := Int32) ((v164 : Int32) + 1) (fun v165 ev165 => ?_)
              have rv165 := xc_rng v165
              refine xi_iadd (pc' := 10) (v := v165) kc_12_9 rfl ev165 ?_
              refine xcps4 (xj_set (v := v165) hy163 ry163 3 (by first | omega | decide) (by first | omega | decide)) (fun y166 s166 hy166 ry166 => ?_)
              refine xi_iastore (pc' := 11) (x' := y166) kc_12_10 rfl A163 rfl (xi_in (by decide) (by rw [hy163]; decide)) s166 (fun hh166 eh166 => ?_)
              have K167 := xk_pa K17 (xk_wa rfl) xD_140 hy166 ry166 eh166
              refine xi_iload_n (pc' := 12) (x := (-3)) kc_12_11 rfl rfl ?_
              refine xi_ireturn kc_12_12 mr_12 rfl ?_
              show xw J ov (d + 3) 30 (55, [(0, .ref 115), (1, .int x1), (2, .int x2), (3, .int x3), (4, .int x4)], [.int (-3)], hh166) _
              refine xi_ireturn kc_30_55 mr_30 rfl ?_
              have zcm3 : ((-3) : Int32).toInt = (-3) := by decide
              exact kk (-3) hh166 (by omega) K167
set_option maxHeartbeats 4000000 in
theorem mt_32_0 {J : xe_J} {ov : List (List Int32)} (hJ : ∀ d mj as h, mj ≠ xe_loff → J d mj as h = none) (hov1 : ov[1]? = some [10, 0, 0, 0, 0, 0]) (hov2 : ov[2]? = some [99, 30, 50, 50, 1, 99999]) {d : Nat} {Q : Option Value → xe_H → Prop} {h : xe_H} {x1 : Int32} {x2 : Int32} {x3 : Int32} {x4 : Int32} (T : xt h) (kk : (∀ (r : Int32) (h' : xe_H), ((-6) ≤ r.toInt ∧ r.toInt ≤ 9) → xk [(0, 9), (115, 1), (83, 0), (29, 0), (31, 0), (33, 0), (35, 0), (37, 0), (39, 0), (41, 0), (43, 0), (45, 0), (47, 0), (49, 0), (51, 0), (125, 0), (29, 2), (31, 2), (33, 2), (35, 2), (37, 2), (39, 2), (41, 2), (43, 2), (45, 2), (47, 2), (49, 2), (51, 2), (127, 0), (1, 5)] h h' → Q (some (.int r)) h')) : xw J ov (d + 3) 32 (0, [(0, .ref 115), (1, .int x1), (2, .int x2), (3, .int x3), (4, .int x4)], [], h) Q := by
  have K : xk [(0, 9), (115, 1), (83, 0), (29, 0), (31, 0), (33, 0), (35, 0), (37, 0), (39, 0), (41, 0), (43, 0), (45, 0), (47, 0), (49, 0), (51, 0), (125, 0), (29, 2), (31, 2), (33, 2), (35, 2), (37, 2), (39, 2), (41, 2), (43, 2), (45, 2), (47, 2), (49, 2), (51, 2), (127, 0), (1, 5)] h h := xk_re T
  have rx1 := xc_rng x1
  have rx2 := xc_rng x2
  have rx3 := xc_rng x3
  have rx4 := xc_rng x4
  refine xi_aload_n (pc' := 1) (x := 115) kc_32_0 rfl rfl ?_
  refine xi_iconst (pc' := 2) (v := 0) kc_32_1 rfl rfl ?_
  refine xp_115 K.1 (fun u1 u2 u3 u4 u5 u6 u7 u8 u9 u10 u11 u12 u13 bu1 bu2 bu3 bu4 bu5 bu6 bu7 bu8 bu9 bu10 bu11 bu12 bu13 A14 => ?_)
  refine xi_putfield (pc' := 5) (fs' := [.int 0, .int u2, .ref 116, .ref 117, .ref 118, .ref 119, .ref 120, .ref 121, .ref 122, .ref 123, .ref 124, .ref 125, .ref 126, .ref 127, .ref 128, .ref 129, .int u3, .ref 130, .int u4, .ref 131, .ref 132, .ref 133, .ref 134, .int u5, .ref 135, .ref 136, .ref 137, .ref 138, .ref 139, .ref 140, .ref 141, .ref 142, .int u6, .int u7, .int u8, .ref 143, .ref 144, .ref 145, .ref 146, .ref 147, .ref 148, .int u9, .ref 149, .ref 150, .ref 151, .int u10, .ref 152, .ref 153, .ref 154, .ref 155, .ref 156, .ref 157, .ref 158, .ref 159, .int u11, .ref 160, .int u12, .ref 161, .ref 162, .ref 163, .ref 164, .int u13, .ref 165, .ref 166]) kc_32_2 rfl rfl rfl A14 rfl rfl rfl (Nat.le_of_ble_eq_true rfl) rfl (fun hh16 eh15 => ?_)
  have K17 := xk_pf (k := 0) (v := 0) K (xk_wf rfl) xD_115 A14 rfl (by first | omega | decide) (by first | omega | decide) eh15 rfl
  refine xi_iload_n (pc' := 6) (x := x1) kc_32_5 rfl rfl ?_
  refine xi_iconst (pc' := 7) (v := 0) kc_32_6 rfl rfl ?_
  refine xi_iconst (pc' := 8) (v := 3) kc_32_7 rfl rfl ?_
  refine xi_static (mj := 11) (as := [.int x1, .int 0, .int 3]) (st1 := []) (lv0 := [(0, .int x1), (1, .int 0), (2, .int 3)]) kc_32_8 rfl rfl (Nat.le_of_ble_eq_true rfl) rfl rfl (Nat.le_of_ble_eq_true rfl) (hJ _ _ _ _ (by decide)) (xm_le ml_11 rfl) rfl ?_
  refine xi_iload_n (pc' := 1) (x := x1) kc_11_0 rfl rfl ?_
  refine xi_iload_n (pc' := 2) (x := 0) kc_11_1 rfl rfl ?_
  by_cases c18 : x1.toInt < 0
  · refine xi_cmt (pc' := 14) kc_11_2 rfl (xc_lt_t (X := x1.toInt) (Y := 0) rfl (by decide) (by omega)) ?_
    refine xi_iconst (pc' := 15) (v := 0) kc_11_14 rfl rfl ?_
    refine xi_ireturn kc_11_15 mr_11 rfl ?_
    show xw J ov (d + 3) 32 (11, [(0, .ref 115), (1, .int x1), (2, .int x2), (3, .int x3), (4, .int x4)], [.int 0], hh16) _
    refine xi_iff (pc' := 14) kc_32_11 rfl rfl ?_
    refine xi_aload_n (pc' := 15) (x := 115) kc_32_14 rfl rfl ?_
    refine xi_bipush (pc' := 17) (v := (-2)) kc_32_15 rfl rfl ?_
    refine xi_virtual (mj := 12) (as := [.int (-2)]) (st1 := []) (lv0 := [(0, .ref 115), (1, .int (-2))]) kc_32_17 rfl rfl rfl rfl rfl eh15.1 (Nat.le_of_ble_eq_true rfl) (hJ _ _ _ _ (by decide)) (xm_le ml_12 rfl) rfl ?_
    refine xi_aload_n (pc' := 1) (x := 115) kc_12_0 rfl rfl ?_
    refine xi_getfield (pc' := 4) (v := .ref 140) kc_12_1 rfl rfl rfl eh15.1 rfl ?_
    refine xi_iload_n (pc' := 5) (x := (-2)) kc_12_4 rfl rfl ?_
    refine xi_ineg (pc' := 6) (v := 2) kc_12_5 rfl rfl ?_
    refine xi_dup2 (pc' := 7) kc_12_6 rfl ⟨rfl, rfl⟩ ?_
    refine xcps4 (xk_arr K17.1 xD_140) (fun y19 A19 hy19 ry19 => ?_)
    refine xcps4 (xj_get hy19 ry19 (i := 2) (by decide) (by decide)) (fun v20 ev20 bv20 dv20 => ?_)
    refine xi_iaload (pc' := 8) (v := v20) kc_12_7 rfl A19 (by decide) rfl (xi_in (by decide) (by rw [hy19]; decide)) ev20 ?_
    refine xi_iconst (pc' := 9) (v := 1) kc_12_8 rfl rfl ?_
    refine xcps2 (α := Int32) ((v20 : Int32) + 1) (fun v21 ev21 => ?_)
    have rv21 := xc_rng v21
    refine xi_iadd (pc' := 10) (v := v21) kc_12_9 rfl ev21 ?_
    refine xcps4 (xj_set (v := v21) hy19 ry19 2 (by first | omega | decide) (by first | omega | decide)) (fun y22 s22 hy22 ry22 => ?_)
    refine xi_iastore (pc' := 11) (x' := y22) kc_12_10 rfl A19 rfl (xi_in (by decide) (by rw [hy19]; decide)) s22 (fun hh22 eh22 => ?_)
    have K23 := xk_pa K17 (xk_wa rfl) xD_140 hy22 ry22 eh22
    refine xi_iload_n (pc' := 12) (x := (-2)) kc_12_11 rfl rfl ?_
    refine xi_ireturn kc_12_12 mr_12 rfl ?_
    show xw J ov (d + 3) 32 (20, [(0, .ref 115), (1, .int x1), (2, .int x2), (3, .int x3), (4, .int x4)], [.int (-2)], hh22) _
    refine xi_ireturn kc_32_20 mr_32 rfl ?_
    have zcm2 : ((-2) : Int32).toInt = (-2) := by decide
    exact kk (-2) hh22 (by omega) K23
  · refine xi_cmf (pc' := 5) kc_11_2 rfl (xc_lt_f (X := x1.toInt) (Y := 0) rfl (by decide) (by omega)) ?_
    refine xi_iload_n (pc' := 6) (x := x1) kc_11_5 rfl rfl ?_
    refine xi_iload_n (pc' := 7) (x := 3) kc_11_6 rfl rfl ?_
    by_cases c24 : 3 < x1.toInt
    · refine xi_cmt (pc' := 14) kc_11_7 rfl (xc_gt_t (X := x1.toInt) (Y := 3) rfl (by decide) (by omega)) ?_
      refine xi_iconst (pc' := 15) (v := 0) kc_11_14 rfl rfl ?_
      refine xi_ireturn kc_11_15 mr_11 rfl ?_
      show xw J ov (d + 3) 32 (11, [(0, .ref 115), (1, .int x1), (2, .int x2), (3, .int x3), (4, .int x4)], [.int 0], hh16) _
      refine xi_iff (pc' := 14) kc_32_11 rfl rfl ?_
      refine xi_aload_n (pc' := 15) (x := 115) kc_32_14 rfl rfl ?_
      refine xi_bipush (pc' := 17) (v := (-2)) kc_32_15 rfl rfl ?_
      refine xi_virtual (mj := 12) (as := [.int (-2)]) (st1 := []) (lv0 := [(0, .ref 115), (1, .int (-2))]) kc_32_17 rfl rfl rfl rfl rfl eh15.1 (Nat.le_of_ble_eq_true rfl) (hJ _ _ _ _ (by decide)) (xm_le ml_12 rfl) rfl ?_
      refine xi_aload_n (pc' := 1) (x := 115) kc_12_0 rfl rfl ?_
      refine xi_getfield (pc' := 4) (v := .ref 140) kc_12_1 rfl rfl rfl eh15.1 rfl ?_
      refine xi_iload_n (pc' := 5) (x := (-2)) kc_12_4 rfl rfl ?_
      refine xi_ineg (pc' := 6) (v := 2) kc_12_5 rfl rfl ?_
      refine xi_dup2 (pc' := 7) kc_12_6 rfl ⟨rfl, rfl⟩ ?_
      refine xcps4 (xk_arr K17.1 xD_140) (fun y25 A25 hy25 ry25 => ?_)
      refine xcps4 (xj_get hy25 ry25 (i := 2) (by decide) (by decide)) (fun v26 ev26 bv26 dv26 => ?_)
      refine xi_iaload (pc' := 8) (v := v26) kc_12_7 rfl A25 (by decide) rfl (xi_in (by decide) (by rw [hy25]; decide)) ev26 ?_
      refine xi_iconst (pc' := 9) (v := 1) kc_12_8 rfl rfl ?_
      refine xcps2 (α := Int32) ((v26 : Int32) + 1) (fun v27 ev27 => ?_)
      have rv27 := xc_rng v27
      refine xi_iadd (pc' := 10) (v := v27) kc_12_9 rfl ev27 ?_
      refine xcps4 (xj_set (v := v27) hy25 ry25 2 (by first | omega | decide) (by first | omega | decide)) (fun y28 s28 hy28 ry28 => ?_)
      refine xi_iastore (pc' := 11) (x' := y28) kc_12_10 rfl A25 rfl (xi_in (by decide) (by rw [hy25]; decide)) s28 (fun hh28 eh28 => ?_)
      have K29 := xk_pa K17 (xk_wa rfl) xD_140 hy28 ry28 eh28
      refine xi_iload_n (pc' := 12) (x := (-2)) kc_12_11 rfl rfl ?_
      refine xi_ireturn kc_12_12 mr_12 rfl ?_
      show xw J ov (d + 3) 32 (20, [(0, .ref 115), (1, .int x1), (2, .int x2), (3, .int x3), (4, .int x4)], [.int (-2)], hh28) _
      refine xi_ireturn kc_32_20 mr_32 rfl ?_
      have zcm2 : ((-2) : Int32).toInt = (-2) := by decide
      exact kk (-2) hh28 (by omega) K29
    · refine xi_cmf (pc' := 10) kc_11_7 rfl (xc_gt_f (X := x1.toInt) (Y := 3) rfl (by decide) (by omega)) ?_
      refine xi_iconst (pc' := 11) (v := 1) kc_11_10 rfl rfl ?_
      refine xi_goto (pc' := 15) kc_11_11 rfl ?_
      refine xi_ireturn kc_11_15 mr_11 rfl ?_
      show xw J ov (d + 3) 32 (11, [(0, .ref 115), (1, .int x1), (2, .int x2), (3, .int x3), (4, .int x4)], [.int 1], hh16) _
      refine xi_ift (pc' := 21) kc_32_11 rfl rfl ?_
      refine xi_iload_n (pc' := 22) (x := x1) kc_32_21 rfl rfl ?_
      refine xi_iconst (pc' := 23) (v := 3) kc_32_22 rfl rfl ?_
      by_cases c30 : x1.toInt = 3
      · refine xi_cmf (pc' := 26) kc_32_23 rfl (xc_ne_f (X := x1.toInt) (Y := 3) rfl (by decide) (by omega)) ?_
        refine xi_iload_n (pc' := 27) (x := x2) kc_32_26 rfl rfl ?_
        refine xi_static (mj := 10) (as := [.int x2]) (st1 := []) (lv0 := [(0, .int x2)]) kc_32_27 rfl rfl (Nat.le_of_ble_eq_true rfl) rfl rfl (Nat.le_of_ble_eq_true rfl) (hJ _ _ _ _ (by decide)) (xm_le ml_10 rfl) rfl ?_
        refine xi_iload_n (pc' := 1) (x := x2) kc_10_0 rfl rfl ?_
        refine xi_iconst (pc' := 2) (v := 0) kc_10_1 rfl rfl ?_
        refine xi_iconst (pc' := 3) (v := 5) kc_10_2 rfl rfl ?_
        refine xi_static (mj := 11) (as := [.int x2, .int 0, .int 5]) (st1 := []) (lv0 := [(0, .int x2), (1, .int 0), (2, .int 5)]) kc_10_3 rfl rfl (Nat.le_of_ble_eq_true rfl) rfl rfl (Nat.le_of_ble_eq_true rfl) (hJ _ _ _ _ (by decide)) (xm_le ml_11 rfl) rfl ?_
        refine xi_iload_n (pc' := 1) (x := x2) kc_11_0 rfl rfl ?_
        refine xi_iload_n (pc' := 2) (x := 0) kc_11_1 rfl rfl ?_
        by_cases c31 : x2.toInt < 0
        · refine xi_cmt (pc' := 14) kc_11_2 rfl (xc_lt_t (X := x2.toInt) (Y := 0) rfl (by decide) (by omega)) ?_
          refine xi_iconst (pc' := 15) (v := 0) kc_11_14 rfl rfl ?_
          refine xi_ireturn kc_11_15 mr_11 rfl ?_
          show xw J ov (d + 2) 10 (6, [(0, .int x2)], [.int 0], hh16) _
          refine xi_ireturn kc_10_6 mr_10 rfl ?_
          show xw J ov (d + 3) 32 (30, [(0, .ref 115), (1, .int x1), (2, .int x2), (3, .int x3), (4, .int x4)], [.int 0], hh16) _
          refine xi_iff (pc' := 33) kc_32_30 rfl rfl ?_
          refine xi_goto (pc' := 57) kc_32_33 rfl ?_
          refine xi_aload_n (pc' := 58) (x := 115) kc_32_57 rfl rfl ?_
          refine xi_iconst (pc' := 59) (v := (-1)) kc_32_58 rfl rfl ?_
          refine xi_virtual (mj := 12) (as := [.int (-1)]) (st1 := []) (lv0 := [(0, .ref 115), (1, .int (-1))]) kc_32_59 rfl rfl rfl rfl rfl eh15.1 (Nat.le_of_ble_eq_true rfl) (hJ _ _ _ _ (by decide)) (xm_le ml_12 rfl) rfl ?_
          refine xi_aload_n (pc' := 1) (x := 115) kc_12_0 rfl rfl ?_
          refine xi_getfield (pc' := 4) (v := .ref 140) kc_12_1 rfl rfl rfl eh15.1 rfl ?_
          refine xi_iload_n (pc' := 5) (x := (-1)) kc_12_4 rfl rfl ?_
          refine xi_ineg (pc' := 6) (v := 1) kc_12_5 rfl rfl ?_
          refine xi_dup2 (pc' := 7) kc_12_6 rfl ⟨rfl, rfl⟩ ?_
          refine xcps4 (xk_arr K17.1 xD_140) (fun y32 A32 hy32 ry32 => ?_)
          refine xcps4 (xj_get hy32 ry32 (i := 1) (by decide) (by decide)) (fun v33 ev33 bv33 dv33 => ?_)
          refine xi_iaload (pc' := 8) (v := v33) kc_12_7 rfl A32 (by decide) rfl (xi_in (by decide) (by rw [hy32]; decide)) ev33 ?_
          refine xi_iconst (pc' := 9) (v := 1) kc_12_8 rfl rfl ?_
          refine xcps2 (α := Int32) ((v33 : Int32) + 1) (fun v34 ev34 => ?_)
          have rv34 := xc_rng v34
          refine xi_iadd (pc' := 10) (v := v34) kc_12_9 rfl ev34 ?_
          refine xcps4 (xj_set (v := v34) hy32 ry32 1 (by first | omega | decide) (by first | omega | decide)) (fun y35 s35 hy35 ry35 => ?_)
          refine xi_iastore (pc' := 11) (x' := y35) kc_12_10 rfl A32 rfl (xi_in (by decide) (by rw [hy32]; decide)) s35 (fun hh35 eh35 => ?_)
          have K36 := xk_pa K17 (xk_wa rfl) xD_140 hy35 ry35 eh35
          refine xi_iload_n (pc' := 12) (x := (-1)) kc_12_11 rfl rfl ?_
          refine xi_ireturn kc_12_12 mr_12 rfl ?_
          show xw J ov (d + 3) 32 (62, [(0, .ref 115), (1, .int x1), (2, .int x2), (3, .int x3), (4, .int x4)], [.int (-1)], hh35) _
          refine xi_ireturn kc_32_62 mr_32 rfl ?_
          have zcm1 : ((-1) : Int32).toInt = (-1) := by decide
          exact kk (-1) hh35 (by omega) K36
        · refine xi_cmf (pc' := 5) kc_11_2 rfl (xc_lt_f (X := x2.toInt) (Y := 0) rfl (by decide) (by omega)) ?_
          refine xi_iload_n (pc' := 6) (x := x2) kc_11_5 rfl rfl ?_
          refine xi_iload_n (pc' := 7) (x := 5) kc_11_6 rfl rfl ?_
          by_cases c37 : 5 < x2.toInt
          · refine xi_cmt (pc' := 14) kc_11_7 rfl (xc_gt_t (X := x2.toInt) (Y := 5) rfl (by decide) (by omega)) ?_
            refine xi_iconst (pc' := 15) (v := 0) kc_11_14 rfl rfl ?_
            refine xi_ireturn kc_11_15 mr_11 rfl ?_
            show xw J ov (d + 2) 10 (6, [(0, .int x2)], [.int 0], hh16) _
            refine xi_ireturn kc_10_6 mr_10 rfl ?_
            show xw J ov (d + 3) 32 (30, [(0, .ref 115), (1, .int x1), (2, .int x2), (3, .int x3), (4, .int x4)], [.int 0], hh16) _
            refine xi_iff (pc' := 33) kc_32_30 rfl rfl ?_
            refine xi_goto (pc' := 57) kc_32_33 rfl ?_
            refine xi_aload_n (pc' := 58) (x := 115) kc_32_57 rfl rfl ?_
            refine xi_iconst (pc' := 59) (v := (-1)) kc_32_58 rfl rfl ?_
            refine xi_virtual (mj := 12) (as := [.int (-1)]) (st1 := []) (lv0 := [(0, .ref 115), (1, .int (-1))]) kc_32_59 rfl rfl rfl rfl rfl eh15.1 (Nat.le_of_ble_eq_true rfl) (hJ _ _ _ _ (by decide)) (xm_le ml_12 rfl) rfl ?_
            refine xi_aload_n (pc' := 1) (x := 115) kc_12_0 rfl rfl ?_
            refine xi_getfield (pc' := 4) (v := .ref 140) kc_12_1 rfl rfl rfl eh15.1 rfl ?_
            refine xi_iload_n (pc' := 5) (x := (-1)) kc_12_4 rfl rfl ?_
            refine xi_ineg (pc' := 6) (v := 1) kc_12_5 rfl rfl ?_
            refine xi_dup2 (pc' := 7) kc_12_6 rfl ⟨rfl, rfl⟩ ?_
            refine xcps4 (xk_arr K17.1 xD_140) (fun y38 A38 hy38 ry38 => ?_)
            refine xcps4 (xj_get hy38 ry38 (i := 1) (by decide) (by decide)) (fun v39 ev39 bv39 dv39 => ?_)
            refine xi_iaload (pc' := 8) (v := v39) kc_12_7 rfl A38 (by decide) rfl (xi_in (by decide) (by rw [hy38]; decide)) ev39 ?_
            refine xi_iconst (pc' := 9) (v := 1) kc_12_8 rfl rfl ?_
            refine xcps2 (α := Int32) ((v39 : Int32) + 1) (fun v40 ev40 => ?_)
            have rv40 := xc_rng v40
            refine xi_iadd (pc' := 10) (v := v40) kc_12_9 rfl ev40 ?_
            refine xcps4 (xj_set (v := v40) hy38 ry38 1 (by first | omega | decide) (by first | omega | decide)) (fun y41 s41 hy41 ry41 => ?_)
            refine xi_iastore (pc' := 11) (x' := y41) kc_12_10 rfl A38 rfl (xi_in (by decide) (by rw [hy38]; decide)) s41 (fun hh41 eh41 => ?_)
            have K42 := xk_pa K17 (xk_wa rfl) xD_140 hy41 ry41 eh41
            refine xi_iload_n (pc' := 12) (x := (-1)) kc_12_11 rfl rfl ?_
            refine xi_ireturn kc_12_12 mr_12 rfl ?_
            show xw J ov (d + 3) 32 (62, [(0, .ref 115), (1, .int x1), (2, .int x2), (3, .int x3), (4, .int x4)], [.int (-1)], hh41) _
            refine xi_ireturn kc_32_62 mr_32 rfl ?_
            have zcm1 : ((-1) : Int32).toInt = (-1) := by decide
            exact kk (-1) hh41 (by omega) K42
          · refine xi_cmf (pc' := 10) kc_11_7 rfl (xc_gt_f (X := x2.toInt) (Y := 5) rfl (by decide) (by omega)) ?_
            refine xi_iconst (pc' := 11) (v := 1) kc_11_10 rfl rfl ?_
            refine xi_goto (pc' := 15) kc_11_11 rfl ?_
            refine xi_ireturn kc_11_15 mr_11 rfl ?_
            show xw J ov (d + 2) 10 (6, [(0, .int x2)], [.int 1], hh16) _
            refine xi_ireturn kc_10_6 mr_10 rfl ?_
            show xw J ov (d + 3) 32 (30, [(0, .ref 115), (1, .int x1), (2, .int x2), (3, .int x3), (4, .int x4)], [.int 1], hh16) _
            refine xi_ift (pc' := 63) kc_32_30 rfl rfl ?_
            refine xi_iload_n (pc' := 64) (x := x3) kc_32_63 rfl rfl ?_
            refine xi_iconst (pc' := 65) (v := 1) kc_32_64 rfl rfl ?_
            by_cases c43 : x3.toInt < 1
            · refine xi_cmt (pc' := 73) kc_32_65 rfl (xc_lt_t (X := x3.toInt) (Y := 1) rfl (by decide) (by omega)) ?_
              refine xi_aload_n (pc' := 74) (x := 115) kc_32_73 rfl rfl ?_
              refine xi_bipush (pc' := 76) (v := (-4)) kc_32_74 rfl rfl ?_
              refine xi_virtual (mj := 12) (as := [.int (-4)]) (st1 := []) (lv0 := [(0, .ref 115), (1, .int (-4))]) kc_32_76 rfl rfl rfl rfl rfl eh15.1 (Nat.le_of_ble_eq_true rfl) (hJ _ _ _ _ (by decide)) (xm_le ml_12 rfl) rfl ?_
              refine xi_aload_n (pc' := 1) (x := 115) kc_12_0 rfl rfl ?_
              refine xi_getfield (pc' := 4) (v := .ref 140) kc_12_1 rfl rfl rfl eh15.1 rfl ?_
              refine xi_iload_n (pc' := 5) (x := (-4)) kc_12_4 rfl rfl ?_
              refine xi_ineg (pc' := 6) (v := 4) kc_12_5 rfl rfl ?_
              refine xi_dup2 (pc' := 7) kc_12_6 rfl ⟨rfl, rfl⟩ ?_
              refine xcps4 (xk_arr K17.1 xD_140) (fun y44 A44 hy44 ry44 => ?_)
              refine xcps4 (xj_get hy44 ry44 (i := 4) (by decide) (by decide)) (fun v45 ev45 bv45 dv45 => ?_)
              refine xi_iaload (pc' := 8) (v := v45) kc_12_7 rfl A44 (by decide) rfl (xi_in (by decide) (by rw [hy44]; decide)) ev45 ?_
              refine xi_iconst (pc' := 9) (v := 1) kc_12_8 rfl rfl ?_
              refine xcps2 (α := Int32) ((v45 : Int32) + 1) (fun v46 ev46 => ?_)
              have rv46 := xc_rng v46
              refine xi_iadd (pc' := 10) (v := v46) kc_12_9 rfl ev46 ?_
              refine xcps4 (xj_set (v := v46) hy44 ry44 4 (by first | omega | decide) (by first | omega | decide)) (fun y47 s47 hy47 ry47 => ?_)
              refine xi_iastore (pc' := 11) (x' := y47) kc_12_10 rfl A44 rfl (xi_in (by decide) (by rw [hy44]; decide)) s47 (fun hh47 eh47 => ?_)
              have K48 := xk_pa K17 (xk_wa rfl) xD_140 hy47 ry47 eh47
              refine xi_iload_n (pc' := 12) (x := (-4)) kc_12_11 rfl rfl ?_
              refine xi_ireturn kc_12_12 mr_12 rfl ?_
              show xw J ov (d + 3) 32 (79, [(0, .ref 115), (1, .int x1), (2, .int x2), (3, .int x3), (4, .int x4)], [.int (-4)], hh47) _
              refine xi_ireturn kc_32_79 mr_32 rfl ?_
              have zcm4 : ((-4) : Int32).toInt = (-4) := by decide
              exact kk (-4) hh47 (by omega) K48
            · refine xi_cmf (pc' := 68) kc_32_65 rfl (xc_lt_f (X := x3.toInt) (Y := 1) rfl (by decide) (by omega)) ?_
              refine xi_iload (pc' := 70) (x := x4) kc_32_68 rfl rfl ?_
              by_cases c49 : 0 ≤ x4.toInt
              · refine xi_ift (pc' := 80) kc_32_70 rfl (xc_ge_t (X := x4.toInt) (Y := 0) rfl (by decide) (by omega)) ?_
                refine xi_iload_n (pc' := 81) (x := x3) kc_32_80 rfl rfl ?_
                refine xi_bipush (pc' := 83) (v := 99) kc_32_81 rfl rfl ?_
                by_cases c50 : 99 < x3.toInt
                · refine xi_cmt (pc' := 103) kc_32_83 rfl (xc_gt_t (X := x3.toInt) (Y := 99) rfl (by decide) (by omega)) ?_
                  refine xi_aload_n (pc' := 104) (x := 115) kc_32_103 rfl rfl ?_
                  refine xi_bipush (pc' := 106) (v := (-6)) kc_32_104 rfl rfl ?_
                  refine xi_virtual (mj := 12) (as := [.int (-6)]) (st1 := []) (lv0 := [(0, .ref 115), (1, .int (-6))]) kc_32_106 rfl rfl rfl rfl rfl eh15.1 (Nat.le_of_ble_eq_true rfl) (hJ _ _ _ _ (by decide)) (xm_le ml_12 rfl) rfl ?_
                  refine xi_aload_n (pc' := 1) (x := 115) kc_12_0 rfl rfl ?_
                  refine xi_getfield (pc' := 4) (v := .ref 140) kc_12_1 rfl rfl rfl eh15.1 rfl ?_
                  refine xi_iload_n (pc' := 5) (x := (-6)) kc_12_4 rfl rfl ?_
                  refine xi_ineg (pc' := 6) (v := 6) kc_12_5 rfl rfl ?_
                  refine xi_dup2 (pc' := 7) kc_12_6 rfl ⟨rfl, rfl⟩ ?_
                  refine xcps4 (xk_arr K17.1 xD_140) (fun y51 A51 hy51 ry51 => ?_)
                  refine xcps4 (xj_get hy51 ry51 (i := 6) (by decide) (by decide)) (fun v52 ev52 bv52 dv52 => ?_)
                  refine xi_iaload (pc' := 8) (v := v52) kc_12_7 rfl A51 (by decide) rfl (xi_in (by decide) (by rw [hy51]; decide)) ev52 ?_
                  refine xi_iconst (pc' := 9) (v := 1) kc_12_8 rfl rfl ?_
                  refine xcps2 (α := Int32) ((v52 : Int32) + 1) (fun v53 ev53 => ?_)
                  have rv53 := xc_rng v53
                  refine xi_iadd (pc' := 10) (v := v53) kc_12_9 rfl ev53 ?_
                  refine xcps4 (xj_set (v := v53) hy51 ry51 6 (by first | omega | decide) (by first | omega | decide)) (fun y54 s54 hy54 ry54 => ?_)
                  refine xi_iastore (pc' := 11) (x' := y54) kc_12_10 rfl A51 rfl (xi_in (by decide) (by rw [hy51]; decide)) s54 (fun hh54 eh54 => ?_)
                  have K55 := xk_pa K17 (xk_wa rfl) xD_140 hy54 ry54 eh54
                  refine xi_iload_n (pc' := 12) (x := (-6)) kc_12_11 rfl rfl ?_
                  refine xi_ireturn kc_12_12 mr_12 rfl ?_
                  show xw J ov (d + 3) 32 (109, [(0, .ref 115), (1, .int x1), (2, .int x2), (3, .int x3), (4, .int x4)], [.int (-6)], hh54) _
                  refine xi_ireturn kc_32_109 mr_32 rfl ?_
                  have zcm6 : ((-6) : Int32).toInt = (-6) := by decide
                  exact kk (-6) hh54 (by omega) K55
                · refine xi_cmf (pc' := 86) kc_32_83 rfl (xc_gt_f (X := x3.toInt) (Y := 99) rfl (by decide) (by omega)) ?_
                  refine xi_iload (pc' := 88) (x := x4) kc_32_86 rfl rfl ?_
                  refine xi_sipush (pc' := 91) (v := 600) kc_32_88 rfl rfl ?_
                  by_cases c56 : 600 < x4.toInt
                  · refine xi_cmt (pc' := 103) kc_32_91 rfl (xc_gt_t (X := x4.toInt) (Y := 600) rfl (by decide) (by omega)) ?_
                    refine xi_aload_n (pc' := 104) (x := 115) kc_32_103 rfl rfl ?_
                    refine xi_bipush (pc' := 106) (v := (-6)) kc_32_104 rfl rfl ?_
                    refine xi_virtual (mj := 12) (as := [.int (-6)]) (st1 := []) (lv0 := [(0, .ref 115), (1, .int (-6))]) kc_32_106 rfl rfl rfl rfl rfl eh15.1 (Nat.le_of_ble_eq_true rfl) (hJ _ _ _ _ (by decide)) (xm_le ml_12 rfl) rfl ?_
                    refine xi_aload_n (pc' := 1) (x := 115) kc_12_0 rfl rfl ?_
                    refine xi_getfield (pc' := 4) (v := .ref 140) kc_12_1 rfl rfl rfl eh15.1 rfl ?_
                    refine xi_iload_n (pc' := 5) (x := (-6)) kc_12_4 rfl rfl ?_
                    refine xi_ineg (pc' := 6) (v := 6) kc_12_5 rfl rfl ?_
                    refine xi_dup2 (pc' := 7) kc_12_6 rfl ⟨rfl, rfl⟩ ?_
                    refine xcps4 (xk_arr K17.1 xD_140) (fun y57 A57 hy57 ry57 => ?_)
                    refine xcps4 (xj_get hy57 ry57 (i := 6) (by decide) (by decide)) (fun v58 ev58 bv58 dv58 => ?_)
                    refine xi_iaload (pc' := 8) (v := v58) kc_12_7 rfl A57 (by decide) rfl (xi_in (by decide) (by rw [hy57]; decide)) ev58 ?_
                    refine xi_iconst (pc' := 9) (v := 1) kc_12_8 rfl rfl ?_
                    refine xcps2 (α := Int32) ((v58 : Int32) + 1) (fun v59 ev59 => ?_)
                    have rv59 := xc_rng v59
                    refine xi_iadd (pc' := 10) (v := v59) kc_12_9 rfl ev59 ?_
                    refine xcps4 (xj_set (v := v59) hy57 ry57 6 (by first | omega | decide) (by first | omega | decide)) (fun y60 s60 hy60 ry60 => ?_)
                    refine xi_iastore (pc' := 11) (x' := y60) kc_12_10 rfl A57 rfl (xi_in (by decide) (by rw [hy57]; decide)) s60 (fun hh60 eh60 => ?_)
                    have K61 := xk_pa K17 (xk_wa rfl) xD_140 hy60 ry60 eh60
                    refine xi_iload_n (pc' := 12) (x := (-6)) kc_12_11 rfl rfl ?_
                    refine xi_ireturn kc_12_12 mr_12 rfl ?_
                    show xw J ov (d + 3) 32 (109, [(0, .ref 115), (1, .int x1), (2, .int x2), (3, .int x3), (4, .int x4)], [.int (-6)], hh60) _
                    refine xi_ireturn kc_32_109 mr_32 rfl ?_
                    have zcm6 : ((-6) : Int32).toInt = (-6) := by decide
                    exact kk (-6) hh60 (by omega) K61
                  · refine xi_cmf (pc' := 94) kc_32_91 rfl (xc_gt_f (X := x4.toInt) (Y := 600) rfl (by decide) (by omega)) ?_
                    refine xi_aload_n (pc' := 95) (x := 115) kc_32_94 rfl rfl ?_
                    refine xi_getfield (pc' := 98) (v := .int u5) kc_32_95 rfl rfl rfl eh15.1 rfl ?_
                    refine xi_bipush (pc' := 100) (v := 10) kc_32_98 rfl rfl ?_
                    by_cases c62 : u5.toInt = 10
                    · refine xi_cmf (pc' := 103) kc_32_100 rfl (xc_ne_f (X := u5.toInt) (Y := 10) rfl (by decide) (by omega)) ?_
                      refine xi_aload_n (pc' := 104) (x := 115) kc_32_103 rfl rfl ?_
                      refine xi_bipush (pc' := 106) (v := (-6)) kc_32_104 rfl rfl ?_
                      refine xi_virtual (mj := 12) (as := [.int (-6)]) (st1 := []) (lv0 := [(0, .ref 115), (1, .int (-6))]) kc_32_106 rfl rfl rfl rfl rfl eh15.1 (Nat.le_of_ble_eq_true rfl) (hJ _ _ _ _ (by decide)) (xm_le ml_12 rfl) rfl ?_
                      refine xi_aload_n (pc' := 1) (x := 115) kc_12_0 rfl rfl ?_
                      refine xi_getfield (pc' := 4) (v := .ref 140) kc_12_1 rfl rfl rfl eh15.1 rfl ?_
                      refine xi_iload_n (pc' := 5) (x := (-6)) kc_12_4 rfl rfl ?_
                      refine xi_ineg (pc' := 6) (v := 6) kc_12_5 rfl rfl ?_
                      refine xi_dup2 (pc' := 7) kc_12_6 rfl ⟨rfl, rfl⟩ ?_
                      refine xcps4 (xk_arr K17.1 xD_140) (fun y63 A63 hy63 ry63 => ?_)
                      refine xcps4 (xj_get hy63 ry63 (i := 6) (by decide) (by decide)) (fun v64 ev64 bv64 dv64 => ?_)
                      refine xi_iaload (pc' := 8) (v := v64) kc_12_7 rfl A63 (by decide) rfl (xi_in (by decide) (by rw [hy63]; decide)) ev64 ?_
                      refine xi_iconst (pc' := 9) (v := 1) kc_12_8 rfl rfl ?_
                      refine xcps2 (α := Int32) ((v64 : Int32) + 1) (fun v65 ev65 => ?_)
                      have rv65 := xc_rng v65
                      refine xi_iadd (pc' := 10) (v := v65) kc_12_9 rfl ev65 ?_
                      refine xcps4 (xj_set (v := v65) hy63 ry63 6 (by first | omega | decide) (by first | omega | decide)) (fun y66 s66 hy66 ry66 => ?_)
                      refine xi_iastore (pc' := 11) (x' := y66) kc_12_10 rfl A63 rfl (xi_in (by decide) (by rw [hy63]; decide)) s66 (fun hh66 eh66 => ?_)
                      have K67 := xk_pa K17 (xk_wa rfl) xD_140 hy66 ry66 eh66
                      refine xi_iload_n (pc' := 12) (x := (-6)) kc_12_11 rfl rfl ?_
                      refine xi_ireturn kc_12_12 mr_12 rfl ?_
                      show xw J ov (d + 3) 32 (109, [(0, .ref 115), (1, .int x1), (2, .int x2), (3, .int x3), (4, .int x4)], [.int (-6)], hh66) _
                      refine xi_ireturn kc_32_109 mr_32 rfl ?_
                      have zcm6 : ((-6) : Int32).toInt = (-6) := by decide
                      exact kk (-6) hh66 (by omega) K67
                    · refine xi_cmt (pc' := 110) kc_32_100 rfl (xc_ne_t (X := u5.toInt) (Y := 10) rfl (by decide) (by omega)) ?_
                      refine xi_aload_n (pc' := 111) (x := 115) kc_32_110 rfl rfl ?_
                      refine xi_getfield (pc' := 114) (v := .ref 135) kc_32_111 rfl rfl rfl eh15.1 rfl ?_
                      refine xi_aload_n (pc' := 115) (x := 115) kc_32_114 rfl rfl ?_
                      refine xi_getfield (pc' := 118) (v := .int u5) kc_32_115 rfl rfl rfl eh15.1 rfl ?_
                      refine xi_iload_n (pc' := 119) (x := x1) kc_32_118 rfl rfl ?_
                      refine xcps4 (xk_arr K17.1 xD_135) (fun y68 A68 hy68 ry68 => ?_)
                      refine xcps4 (xj_set (v := x1) hy68 ry68 u5 (by first | omega | decide) (by first | omega | decide)) (fun y69 s69 hy69 ry69 => ?_)
                      refine xi_iastore (pc' := 120) (x' := y69) kc_32_119 rfl A68 rfl (xi_in (by omega) (by rw [hy68]; omega)) s69 (fun hh69 eh69 => ?_)
                      have K70 := xk_pa K17 (xk_wa rfl) xD_135 hy69 ry69 eh69
                      refine xi_aload_n (pc' := 121) (x := 115) kc_32_120 rfl rfl ?_
                      have A71 := ((eh69.2.1 115 (by decide)).trans eh15.1)
                      refine xi_getfield (pc' := 124) (v := .ref 136) kc_32_121 rfl rfl rfl A71 rfl ?_
                      refine xi_aload_n (pc' := 125) (x := 115) kc_32_124 rfl rfl ?_
                      refine xi_getfield (pc' := 128) (v := .int u5) kc_32_125 rfl rfl rfl A71 rfl ?_
                      refine xi_iload_n (pc' := 129) (x := x2) kc_32_128 rfl rfl ?_
                      refine xcps4 (xk_arr K70.1 xD_136) (fun y72 A72 hy72 ry72 => ?_)
                      refine xcps4 (xj_set (v := x2) hy72 ry72 u5 (by first | omega | decide) (by first | omega | decide)) (fun y73 s73 hy73 ry73 => ?_)
                      refine xi_iastore (pc' := 130) (x' := y73) kc_32_129 rfl A72 rfl (xi_in (by omega) (by rw [hy72]; omega)) s73 (fun hh73 eh73 => ?_)
                      have K74 := xk_pa K70 (xk_wa rfl) xD_136 hy73 ry73 eh73
                      refine xi_aload_n (pc' := 131) (x := 115) kc_32_130 rfl rfl ?_
                      have A75 := ((eh73.2.1 115 (by decide)).trans A71)
                      refine xi_getfield (pc' := 134) (v := .ref 137) kc_32_131 rfl rfl rfl A75 rfl ?_
                      refine xi_aload_n (pc' := 135) (x := 115) kc_32_134 rfl rfl ?_
                      refine xi_getfield (pc' := 138) (v := .int u5) kc_32_135 rfl rfl rfl A75 rfl ?_
                      refine xi_iload_n (pc' := 139) (x := x3) kc_32_138 rfl rfl ?_
                      refine xcps4 (xk_arr K74.1 xD_137) (fun y76 A76 hy76 ry76 => ?_)
                      refine xcps4 (xj_set (v := x3) hy76 ry76 u5 (by first | omega | decide) (by first | omega | decide)) (fun y77 s77 hy77 ry77 => ?_)
                      refine xi_iastore (pc' := 140) (x' := y77) kc_32_139 rfl A76 rfl (xi_in (by omega) (by rw [hy76]; omega)) s77 (fun hh77 eh77 => ?_)
                      have K78 := xk_pa K74 (xk_wa rfl) xD_137 hy77 ry77 eh77
                      refine xi_aload_n (pc' := 141) (x := 115) kc_32_140 rfl rfl ?_
                      have A79 := ((eh77.2.1 115 (by decide)).trans A75)
                      refine xi_getfield (pc' := 144) (v := .ref 138) kc_32_141 rfl rfl rfl A79 rfl ?_
                      refine xi_aload_n (pc' := 145) (x := 115) kc_32_144 rfl rfl ?_
                      refine xi_getfield (pc' := 148) (v := .int u5) kc_32_145 rfl rfl rfl A79 rfl ?_
                      refine xi_iload (pc' := 150) (x := x4) kc_32_148 rfl rfl ?_
                      refine xcps4 (xk_arr K78.1 xD_138) (fun y80 A80 hy80 ry80 => ?_)
                      refine xcps4 (xj_set (v := x4) hy80 ry80 u5 (by first | omega | decide) (by first | omega | decide)) (fun y81 s81 hy81 ry81 => ?_)
                      refine xi_iastore (pc' := 151) (x' := y81) kc_32_150 rfl A80 rfl (xi_in (by omega) (by rw [hy80]; omega)) s81 (fun hh81 eh81 => ?_)
                      have K82 := xk_pa K78 (xk_wa rfl) xD_138 hy81 ry81 eh81
                      refine xi_aload_n (pc' := 152) (x := 115) kc_32_151 rfl rfl ?_
                      have A83 := ((eh81.2.1 115 (by decide)).trans A79)
                      refine xi_getfield (pc' := 155) (v := .ref 139) kc_32_152 rfl rfl rfl A83 rfl ?_
                      refine xi_aload_n (pc' := 156) (x := 115) kc_32_155 rfl rfl ?_
                      refine xi_getfield (pc' := 159) (v := .int u5) kc_32_156 rfl rfl rfl A83 rfl ?_
                      refine xi_iconst (pc' := 160) (v := 0) kc_32_159 rfl rfl ?_
                      refine xcps4 (xk_arr K82.1 xD_139) (fun y84 A84 hy84 ry84 => ?_)
                      refine xcps4 (xj_set (v := 0) hy84 ry84 u5 (by first | omega | decide) (by first | omega | decide)) (fun y85 s85 hy85 ry85 => ?_)
                      refine xi_bastore (pc' := 161) (x' := y85) kc_32_160 rfl A84 rfl (xi_in (by omega) (by rw [hy84]; omega)) s85 (fun hh85 eh85 => ?_)
                      have K86 := xk_pa K82 (xk_wa rfl) xD_139 hy85 ry85 eh85
                      refine xi_aload_n (pc' := 162) (x := 115) kc_32_161 rfl rfl ?_
                      refine xi_dup (pc' := 163) kc_32_162 rfl rfl ?_
                      have A87 := ((eh85.2.1 115 (by decide)).trans A83)
                      refine xi_getfield (pc' := 166) (v := .int u5) kc_32_163 rfl rfl rfl A87 rfl ?_
                      refine xi_iconst (pc' := 167) (v := 1) kc_32_166 rfl rfl ?_
                      refine xcps2 (α := Int32) (u5 + 1) (fun v88 ev88 => ?_)
                      have zv88 : v88.toInt = (u5.toInt + 1) := by rw [← ev88]; exact (xz_add (X := u5.toInt) (Y := 1) rfl (by decide) (by omega) (by omega)).trans (by omega)
                      refine xi_iadd (pc' := 168) (v := v88) kc_32_167 rfl ev88 ?_
                      refine xi_putfield (pc' := 171) (fs' := [.int 0, .int u2, .ref 116, .ref 117, .ref 118, .ref 119, .ref 120, .ref 121, .ref 122, .ref 123, .ref 124, .ref 125, .ref 126, .ref 127, .ref 128, .ref 129, .int u3, .ref 130, .int u4, .ref 131, .ref 132, .ref 133, .ref 134, .int v88, .ref 135, .ref 136, .ref 137, .ref 138, .ref 139, .ref 140, .ref 141, .ref 142, .int u6, .int u7, .int u8, .ref 143, .ref 144, .ref 145, .ref 146, .ref 147, .ref 148, .int u9, .ref 149, .ref 150, .ref 151, .int u10, .ref 152, .ref 153, .ref 154, .ref 155, .ref 156, .ref 157, .ref 158, .ref 159, .int u11, .ref 160, .int u12, .ref 161, .ref 162, .ref 163, .ref 164, .int u13, .ref 165, .ref 166]) kc_32_168 rfl rfl rfl A87 rfl rfl rfl (Nat.le_of_ble_eq_true rfl) rfl (fun hh90 eh89 => ?_)
                      have K91 := xk_pf (k := 23) (v := v88) K86 (xk_wf rfl) xD_115 A87 rfl (by first | omega | decide) (by first | omega | decide) eh89 rfl
                      refine xi_aload_n (pc' := 172) (x := 115) kc_32_171 rfl rfl ?_
                      refine xi_iconst (pc' := 173) (v := 0) kc_32_172 rfl rfl ?_
                      refine xi_putfield (pc' := 176) (fs' := [.int 0, .int u2, .ref 116, .ref 117, .ref 118, .ref 119, .ref 120, .ref 121, .ref 122, .ref 123, .ref 124, .ref 125, .ref 126, .ref 127, .ref 128, .ref 129, .int u3, .ref 130, .int u4, .ref 131, .ref 132, .ref 133, .ref 134, .int v88, .ref 135, .ref 136, .ref 137, .ref 138, .ref 139, .ref 140, .ref 141, .ref 142, .int u6, .int u7, .int u8, .ref 143, .ref 144, .ref 145, .ref 146, .ref 147, .ref 148, .int 0, .ref 149, .ref 150, .ref 151, .int u10, .ref 152, .ref 153, .ref 154, .ref 155, .ref 156, .ref 157, .ref 158, .ref 159, .int u11, .ref 160, .int u12, .ref 161, .ref 162, .ref 163, .ref 164, .int u13, .ref 165, .ref 166]) kc_32_173 rfl rfl rfl eh89.1 rfl rfl rfl (Nat.le_of_ble_eq_true rfl) rfl (fun hh93 eh92 => ?_)
                      have K94 := xk_pf (k := 41) (v := 0) K91 (xk_wf rfl) xD_115 eh89.1 rfl (by first | omega | decide) (by first | omega | decide) eh92 rfl
                      refine xi_aload_n (pc' := 177) (x := 115) kc_32_176 rfl rfl ?_
                      refine xi_getfield (pc' := 180) (v := .int v88) kc_32_177 rfl rfl rfl eh92.1 rfl ?_
                      refine xi_iconst (pc' := 181) (v := 1) kc_32_180 rfl rfl ?_
                      refine xcps2 (α := Int32) (v88 - 1) (fun v95 ev95 => ?_)
                      have zv95 : v95.toInt = u5.toInt := by rw [← ev95]; exact (xz_sub (X := (u5.toInt + 1)) (Y := 1) zv88 (by decide) (by omega) (by omega)).trans (by omega)
                      refine xi_isub (pc' := 182) (v := v95) kc_32_181 rfl ev95 ?_
                      refine xi_ireturn kc_32_182 mr_32 rfl ?_
                      exact kk v95 hh93 (by omega) K94
              · refine xi_iff (pc' := 73) kc_32_70 rfl (xc_ge_f (X := x4.toInt) (Y := 0) rfl (by decide) (by omega)) ?_
                refine xi_aload_n (pc' := 74) (x := 115) kc_32_73 rfl rfl ?_
                refine xi_bipush (pc' := 76) (v := (-4)) kc_32_74 rfl rfl ?_
                refine xi_virtual (mj := 12) (as := [.int (-4)]) (st1 := []) (lv0 := [(0, .ref 115), (1, .int (-4))]) kc_32_76 rfl rfl rfl rfl rfl eh15.1 (Nat.le_of_ble_eq_true rfl) (hJ _ _ _ _ (by decide)) (xm_le ml_12 rfl) rfl ?_
                refine xi_aload_n (pc' := 1) (x := 115) kc_12_0 rfl rfl ?_
                refine xi_getfield (pc' := 4) (v := .ref 140) kc_12_1 rfl rfl rfl eh15.1 rfl ?_
                refine xi_iload_n (pc' := 5) (x := (-4)) kc_12_4 rfl rfl ?_
                refine xi_ineg (pc' := 6) (v := 4) kc_12_5 rfl rfl ?_
                refine xi_dup2 (pc' := 7) kc_12_6 rfl ⟨rfl, rfl⟩ ?_
                refine xcps4 (xk_arr K17.1 xD_140) (fun y96 A96 hy96 ry96 => ?_)
                refine xcps4 (xj_get hy96 ry96 (i := 4) (by decide) (by decide)) (fun v97 ev97 bv97 dv97 => ?_)
                refine xi_iaload (pc' := 8) (v := v97) kc_12_7 rfl A96 (by decide) rfl (xi_in (by decide) (by rw [hy96]; decide)) ev97 ?_
                refine xi_iconst (pc' := 9) (v := 1) kc_12_8 rfl rfl ?_
                refine xcps2 (α := Int32) ((v97 : Int32) + 1) (fun v98 ev98 => ?_)
                have rv98 := xc_rng v98
                refine xi_iadd (pc' := 10) (v := v98) kc_12_9 rfl ev98 ?_
                refine xcps4 (xj_set (v := v98) hy96 ry96 4 (by first | omega | decide) (by first | omega | decide)) (fun y99 s99 hy99 ry99 => ?_)
                refine xi_iastore (pc' := 11) (x' := y99) kc_12_10 rfl A96 rfl (xi_in (by decide) (by rw [hy96]; decide)) s99 (fun hh99 eh99 => ?_)
                have K100 := xk_pa K17 (xk_wa rfl) xD_140 hy99 ry99 eh99
                refine xi_iload_n (pc' := 12) (x := (-4)) kc_12_11 rfl rfl ?_
                refine xi_ireturn kc_12_12 mr_12 rfl ?_
                show xw J ov (d + 3) 32 (79, [(0, .ref 115), (1, .int x1), (2, .int x2), (3, .int x3), (4, .int x4)], [.int (-4)], hh99) _
                refine xi_ireturn kc_32_79 mr_32 rfl ?_
                have zcm4 : ((-4) : Int32).toInt = (-4) := by decide
                exact kk (-4) hh99 (by omega) K100
      · refine xi_cmt (pc' := 36) kc_32_23 rfl (xc_ne_t (X := x1.toInt) (Y := 3) rfl (by decide) (by omega)) ?_
        refine xi_aload_n (pc' := 37) (x := 115) kc_32_36 rfl rfl ?_
        refine xi_iload_n (pc' := 38) (x := x2) kc_32_37 rfl rfl ?_
        refine xi_virtual (mj := 31) (as := [.int x2]) (st1 := []) (lv0 := [(0, .ref 115), (1, .int x2)]) kc_32_38 rfl rfl rfl rfl rfl eh15.1 (Nat.le_of_ble_eq_true rfl) (hJ _ _ _ _ (by decide)) (xm_le ml_31 rfl) rfl ?_
        refine xi_iload_n (pc' := 1) (x := x2) kc_31_0 rfl rfl ?_
        refine xi_static (mj := 24) (as := [.int x2]) (st1 := []) (lv0 := [(0, .int x2)]) kc_31_1 rfl rfl (Nat.le_of_ble_eq_true rfl) rfl rfl (Nat.le_of_ble_eq_true rfl) (hJ _ _ _ _ (by decide)) (xm_le ml_24 rfl) rfl ?_
        refine xi_iload_n (pc' := 1) (x := x2) kc_24_0 rfl rfl ?_
        refine xi_iconst (pc' := 2) (v := 0) kc_24_1 rfl rfl ?_
        refine xi_bipush (pc' := 4) (v := 11) kc_24_2 rfl rfl ?_
        refine xi_static (mj := 11) (as := [.int x2, .int 0, .int 11]) (st1 := []) (lv0 := [(0, .int x2), (1, .int 0), (2, .int 11)]) kc_24_4 rfl rfl (Nat.le_of_ble_eq_true rfl) rfl rfl (Nat.le_of_ble_eq_true rfl) (hJ _ _ _ _ (by decide)) (xm_le ml_11 rfl) rfl ?_
        refine xi_iload_n (pc' := 1) (x := x2) kc_11_0 rfl rfl ?_
        refine xi_iload_n (pc' := 2) (x := 0) kc_11_1 rfl rfl ?_
        by_cases c101 : x2.toInt < 0
        · refine xi_cmt (pc' := 14) kc_11_2 rfl (xc_lt_t (X := x2.toInt) (Y := 0) rfl (by decide) (by omega)) ?_
          refine xi_iconst (pc' := 15) (v := 0) kc_11_14 rfl rfl ?_
          refine xi_ireturn kc_11_15 mr_11 rfl ?_
          show xw J ov (d + 1) 24 (7, [(0, .int x2)], [.int 0], hh16) _
          refine xi_ireturn kc_24_7 mr_24 rfl ?_
          show xw J ov (d + 2) 31 (4, [(0, .ref 115), (1, .int x2)], [.int 0], hh16) _
          refine xi_ift (pc' := 20) kc_31_4 rfl rfl ?_
          refine xi_iconst (pc' := 21) (v := 0) kc_31_20 rfl rfl ?_
          refine xi_ireturn kc_31_21 mr_31 rfl ?_
          show xw J ov (d + 3) 32 (41, [(0, .ref 115), (1, .int x1), (2, .int x2), (3, .int x3), (4, .int x4)], [.int 0], hh16) _
          refine xi_ift (pc' := 57) kc_32_41 rfl rfl ?_
          refine xi_aload_n (pc' := 58) (x := 115) kc_32_57 rfl rfl ?_
          refine xi_iconst (pc' := 59) (v := (-1)) kc_32_58 rfl rfl ?_
          refine xi_virtual (mj := 12) (as := [.int (-1)]) (st1 := []) (lv0 := [(0, .ref 115), (1, .int (-1))]) kc_32_59 rfl rfl rfl rfl rfl eh15.1 (Nat.le_of_ble_eq_true rfl) (hJ _ _ _ _ (by decide)) (xm_le ml_12 rfl) rfl ?_
          refine xi_aload_n (pc' := 1) (x := 115) kc_12_0 rfl rfl ?_
          refine xi_getfield (pc' := 4) (v := .ref 140) kc_12_1 rfl rfl rfl eh15.1 rfl ?_
          refine xi_iload_n (pc' := 5) (x := (-1)) kc_12_4 rfl rfl ?_
          refine xi_ineg (pc' := 6) (v := 1) kc_12_5 rfl rfl ?_
          refine xi_dup2 (pc' := 7) kc_12_6 rfl ⟨rfl, rfl⟩ ?_
          refine xcps4 (xk_arr K17.1 xD_140) (fun y102 A102 hy102 ry102 => ?_)
          refine xcps4 (xj_get hy102 ry102 (i := 1) (by decide) (by decide)) (fun v103 ev103 bv103 dv103 => ?_)
          refine xi_iaload (pc' := 8) (v := v103) kc_12_7 rfl A102 (by decide) rfl (xi_in (by decide) (by rw [hy102]; decide)) ev103 ?_
          refine xi_iconst (pc' := 9) (v := 1) kc_12_8 rfl rfl ?_
          refine xcps2 (α := Int32) ((v103 : Int32) + 1) (fun v104 ev104 => ?_)
          have rv104 := xc_rng v104
          refine xi_iadd (pc' := 10) (v := v104) kc_12_9 rfl ev104 ?_
          refine xcps4 (xj_set (v := v104) hy102 ry102 1 (by first | omega | decide) (by first | omega | decide)) (fun y105 s105 hy105 ry105 => ?_)
          refine xi_iastore (pc' := 11) (x' := y105) kc_12_10 rfl A102 rfl (xi_in (by decide) (by rw [hy102]; decide)) s105 (fun hh105 eh105 => ?_)
          have K106 := xk_pa K17 (xk_wa rfl) xD_140 hy105 ry105 eh105
          refine xi_iload_n (pc' := 12) (x := (-1)) kc_12_11 rfl rfl ?_
          refine xi_ireturn kc_12_12 mr_12 rfl ?_
          show xw J ov (d + 3) 32 (62, [(0, .ref 115), (1, .int x1), (2, .int x2), (3, .int x3), (4, .int x4)], [.int (-1)], hh105) _
          refine xi_ireturn kc_32_62 mr_32 rfl ?_
          have zcm1 : ((-1) : Int32).toInt = (-1) := by decide
          exact kk (-1) hh105 (by omega) K106
        · refine xi_cmf (pc' := 5) kc_11_2 rfl (xc_lt_f (X := x2.toInt) (Y := 0) rfl (by decide) (by omega)) ?_
          refine xi_iload_n (pc' := 6) (x := x2) kc_11_5 rfl rfl ?_
          refine xi_iload_n (pc' := 7) (x := 11) kc_11_6 rfl rfl ?_
          by_cases c107 : 11 < x2.toInt
          · refine xi_cmt (pc' := 14) kc_11_7 rfl (xc_gt_t (X := x2.toInt) (Y := 11) rfl (by decide) (by omega)) ?_
            refine xi_iconst (pc' := 15) (v := 0) kc_11_14 rfl rfl ?_
            refine xi_ireturn kc_11_15 mr_11 rfl ?_
            show xw J ov (d + 1) 24 (7, [(0, .int x2)], [.int 0], hh16) _
            refine xi_ireturn kc_24_7 mr_24 rfl ?_
            show xw J ov (d + 2) 31 (4, [(0, .ref 115), (1, .int x2)], [.int 0], hh16) _
            refine xi_ift (pc' := 20) kc_31_4 rfl rfl ?_
            refine xi_iconst (pc' := 21) (v := 0) kc_31_20 rfl rfl ?_
            refine xi_ireturn kc_31_21 mr_31 rfl ?_
            show xw J ov (d + 3) 32 (41, [(0, .ref 115), (1, .int x1), (2, .int x2), (3, .int x3), (4, .int x4)], [.int 0], hh16) _
            refine xi_ift (pc' := 57) kc_32_41 rfl rfl ?_
            refine xi_aload_n (pc' := 58) (x := 115) kc_32_57 rfl rfl ?_
            refine xi_iconst (pc' := 59) (v := (-1)) kc_32_58 rfl rfl ?_
            refine xi_virtual (mj := 12) (as := [.int (-1)]) (st1 := []) (lv0 := [(0, .ref 115), (1, .int (-1))]) kc_32_59 rfl rfl rfl rfl rfl eh15.1 (Nat.le_of_ble_eq_true rfl) (hJ _ _ _ _ (by decide)) (xm_le ml_12 rfl) rfl ?_
            refine xi_aload_n (pc' := 1) (x := 115) kc_12_0 rfl rfl ?_
            refine xi_getfield (pc' := 4) (v := .ref 140) kc_12_1 rfl rfl rfl eh15.1 rfl ?_
            refine xi_iload_n (pc' := 5) (x := (-1)) kc_12_4 rfl rfl ?_
            refine xi_ineg (pc' := 6) (v := 1) kc_12_5 rfl rfl ?_
            refine xi_dup2 (pc' := 7) kc_12_6 rfl ⟨rfl, rfl⟩ ?_
            refine xcps4 (xk_arr K17.1 xD_140) (fun y108 A108 hy108 ry108 => ?_)
            refine xcps4 (xj_get hy108 ry108 (i := 1) (by decide) (by decide)) (fun v109 ev109 bv109 dv109 => ?_)
            refine xi_iaload (pc' := 8) (v := v109) kc_12_7 rfl A108 (by decide) rfl (xi_in (by decide) (by rw [hy108]; decide)) ev109 ?_
            refine xi_iconst (pc' := 9) (v := 1) kc_12_8 rfl rfl ?_
            refine xcps2 (α := Int32) ((v109 : Int32) + 1) (fun v110 ev110 => ?_)
            have rv110 := xc_rng v110
            refine xi_iadd (pc' := 10) (v := v110) kc_12_9 rfl ev110 ?_
            refine xcps4 (xj_set (v := v110) hy108 ry108 1 (by first | omega | decide) (by first | omega | decide)) (fun y111 s111 hy111 ry111 => ?_)
            refine xi_iastore (pc' := 11) (x' := y111) kc_12_10 rfl A108 rfl (xi_in (by decide) (by rw [hy108]; decide)) s111 (fun hh111 eh111 => ?_)
            have K112 := xk_pa K17 (xk_wa rfl) xD_140 hy111 ry111 eh111
            refine xi_iload_n (pc' := 12) (x := (-1)) kc_12_11 rfl rfl ?_
            refine xi_ireturn kc_12_12 mr_12 rfl ?_
            show xw J ov (d + 3) 32 (62, [(0, .ref 115), (1, .int x1), (2, .int x2), (3, .int x3), (4, .int x4)], [.int (-1)], hh111) _
            refine xi_ireturn kc_32_62 mr_32 rfl ?_
            have zcm1 : ((-1) : Int32).toInt = (-1) := by decide
            exact kk (-1) hh111 (by omega) K112
          · refine xi_cmf (pc' := 10) kc_11_7 rfl (xc_gt_f (X := x2.toInt) (Y := 11) rfl (by decide) (by omega)) ?_
            refine xi_iconst (pc' := 11) (v := 1) kc_11_10 rfl rfl ?_
            refine xi_goto (pc' := 15) kc_11_11 rfl ?_
            refine xi_ireturn kc_11_15 mr_11 rfl ?_
            show xw J ov (d + 1) 24 (7, [(0, .int x2)], [.int 1], hh16) _
            refine xi_ireturn kc_24_7 mr_24 rfl ?_
            show xw J ov (d + 2) 31 (4, [(0, .ref 115), (1, .int x2)], [.int 1], hh16) _
            refine xi_iff (pc' := 7) kc_31_4 rfl rfl ?_
            refine xi_aload_n (pc' := 8) (x := 115) kc_31_7 rfl rfl ?_
            refine xi_getfield (pc' := 11) (v := .ref 125) kc_31_8 rfl rfl rfl eh15.1 rfl ?_
            refine xi_iload_n (pc' := 12) (x := x2) kc_31_11 rfl rfl ?_
            refine xcps4 (xk_arr K17.1 xD_125) (fun y113 A113 hy113 ry113 => ?_)
            refine xcps4 (xj_get hy113 ry113 (i := x2) (by omega) (by omega)) (fun v114 ev114 bv114 dv114 => ?_)
            refine xi_iaload (pc' := 13) (v := v114) kc_31_12 rfl A113 (by decide) rfl (xi_in (by omega) (by rw [hy113]; omega)) ev114 ?_
            by_cases c115 : v114.toInt < 0
            · refine xi_ift (pc' := 20) kc_31_13 rfl (xc_lt_t (X := v114.toInt) (Y := 0) rfl (by decide) (by omega)) ?_
              refine xi_iconst (pc' := 21) (v := 0) kc_31_20 rfl rfl ?_
              refine xi_ireturn kc_31_21 mr_31 rfl ?_
              show xw J ov (d + 3) 32 (41, [(0, .ref 115), (1, .int x1), (2, .int x2), (3, .int x3), (4, .int x4)], [.int 0], hh16) _
              refine xi_ift (pc' := 57) kc_32_41 rfl rfl ?_
              refine xi_aload_n (pc' := 58) (x := 115) kc_32_57 rfl rfl ?_
              refine xi_iconst (pc' := 59) (v := (-1)) kc_32_58 rfl rfl ?_
              refine xi_virtual (mj := 12) (as := [.int (-1)]) (st1 := []) (lv0 := [(0, .ref 115), (1, .int (-1))]) kc_32_59 rfl rfl rfl rfl rfl eh15.1 (Nat.le_of_ble_eq_true rfl) (hJ _ _ _ _ (by decide)) (xm_le ml_12 rfl) rfl ?_
              refine xi_aload_n (pc' := 1) (x := 115) kc_12_0 rfl rfl ?_
              refine xi_getfield (pc' := 4) (v := .ref 140) kc_12_1 rfl rfl rfl eh15.1 rfl ?_
              refine xi_iload_n (pc' := 5) (x := (-1)) kc_12_4 rfl rfl ?_
              refine xi_ineg (pc' := 6) (v := 1) kc_12_5 rfl rfl ?_
              refine xi_dup2 (pc' := 7) kc_12_6 rfl ⟨rfl, rfl⟩ ?_
              refine xcps4 (xk_arr K17.1 xD_140) (fun y116 A116 hy116 ry116 => ?_)
              refine xcps4 (xj_get hy116 ry116 (i := 1) (by decide) (by decide)) (fun v117 ev117 bv117 dv117 => ?_)
              refine xi_iaload (pc' := 8) (v := v117) kc_12_7 rfl A116 (by decide) rfl (xi_in (by decide) (by rw [hy116]; decide)) ev117 ?_
              refine xi_iconst (pc' := 9) (v := 1) kc_12_8 rfl rfl ?_
              refine xcps2 (α := Int32) ((v117 : Int32) + 1) (fun v118 ev118 => ?_)
              have rv118 := xc_rng v118
              refine xi_iadd (pc' := 10) (v := v118) kc_12_9 rfl ev118 ?_
              refine xcps4 (xj_set (v := v118) hy116 ry116 1 (by first | omega | decide) (by first | omega | decide)) (fun y119 s119 hy119 ry119 => ?_)
              refine xi_iastore (pc' := 11) (x' := y119) kc_12_10 rfl A116 rfl (xi_in (by decide) (by rw [hy116]; decide)) s119 (fun hh119 eh119 => ?_)
              have K120 := xk_pa K17 (xk_wa rfl) xD_140 hy119 ry119 eh119
              refine xi_iload_n (pc' := 12) (x := (-1)) kc_12_11 rfl rfl ?_
              refine xi_ireturn kc_12_12 mr_12 rfl ?_
              show xw J ov (d + 3) 32 (62, [(0, .ref 115), (1, .int x1), (2, .int x2), (3, .int x3), (4, .int x4)], [.int (-1)], hh119) _
              refine xi_ireturn kc_32_62 mr_32 rfl ?_
              have zcm1 : ((-1) : Int32).toInt = (-1) := by decide
              exact kk (-1) hh119 (by omega) K120
            · refine xi_iff (pc' := 16) kc_31_13 rfl (xc_lt_f (X := v114.toInt) (Y := 0) rfl (by decide) (by omega)) ?_
              refine xi_iconst (pc' := 17) (v := 1) kc_31_16 rfl rfl ?_
              refine xi_goto (pc' := 21) kc_31_17 rfl ?_
              refine xi_ireturn kc_31_21 mr_31 rfl ?_
              show xw J ov (d + 3) 32 (41, [(0, .ref 115), (1, .int x1), (2, .int x2), (3, .int x3), (4, .int x4)], [.int 1], hh16) _
              refine xi_iff (pc' := 44) kc_32_41 rfl rfl ?_
              refine xi_iload_n (pc' := 45) (x := x1) kc_32_44 rfl rfl ?_
              by_cases c121 : x1.toInt = 0
              · refine xi_iff (pc' := 48) kc_32_45 rfl (xc_ne_f (X := x1.toInt) (Y := 0) rfl (by decide) (by omega)) ?_
                refine xi_aload_n (pc' := 49) (x := 115) kc_32_48 rfl rfl ?_
                refine xi_getfield (pc' := 52) (v := .ref 127) kc_32_49 rfl rfl rfl eh15.1 rfl ?_
                refine xi_iload_n (pc' := 53) (x := x2) kc_32_52 rfl rfl ?_
                refine xcps4 (xk_arr K17.1 xD_127) (fun y122 A122 hy122 ry122 => ?_)
                refine xcps4 (xj_get hy122 ry122 (i := x2) (by omega) (by omega)) (fun v123 ev123 bv123 dv123 => ?_)
                refine xi_baload (pc' := 54) (v := v123) kc_32_53 rfl A122 rfl (xi_in (by omega) (by rw [hy122]; omega)) ev123 ?_
                by_cases c124 : v123.toInt = 0
                · refine xi_iff (pc' := 57) kc_32_54 rfl (xc_ne_f (X := v123.toInt) (Y := 0) rfl (by decide) (by omega)) ?_
                  refine xi_aload_n (pc' := 58) (x := 115) kc_32_57 rfl rfl ?_
                  refine xi_iconst (pc' := 59) (v := (-1)) kc_32_58 rfl rfl ?_
                  refine xi_virtual (mj := 12) (as := [.int (-1)]) (st1 := []) (lv0 := [(0, .ref 115), (1, .int (-1))]) kc_32_59 rfl rfl rfl rfl rfl eh15.1 (Nat.le_of_ble_eq_true rfl) (hJ _ _ _ _ (by decide)) (xm_le ml_12 rfl) rfl ?_
                  refine xi_aload_n (pc' := 1) (x := 115) kc_12_0 rfl rfl ?_
                  refine xi_getfield (pc' := 4) (v := .ref 140) kc_12_1 rfl rfl rfl eh15.1 rfl ?_
                  refine xi_iload_n (pc' := 5) (x := (-1)) kc_12_4 rfl rfl ?_
                  refine xi_ineg (pc' := 6) (v := 1) kc_12_5 rfl rfl ?_
                  refine xi_dup2 (pc' := 7) kc_12_6 rfl ⟨rfl, rfl⟩ ?_
                  refine xcps4 (xk_arr K17.1 xD_140) (fun y125 A125 hy125 ry125 => ?_)
                  refine xcps4 (xj_get hy125 ry125 (i := 1) (by decide) (by decide)) (fun v126 ev126 bv126 dv126 => ?_)
                  refine xi_iaload (pc' := 8) (v := v126) kc_12_7 rfl A125 (by decide) rfl (xi_in (by decide) (by rw [hy125]; decide)) ev126 ?_
                  refine xi_iconst (pc' := 9) (v := 1) kc_12_8 rfl rfl ?_
                  refine xcps2 (α := Int32) ((v126 : Int32) + 1) (fun v127 ev127 => ?_)
                  have rv127 := xc_rng v127
                  refine xi_iadd (pc' := 10) (v := v127) kc_12_9 rfl ev127 ?_
                  refine xcps4 (xj_set (v := v127) hy125 ry125 1 (by first | omega | decide) (by first | omega | decide)) (fun y128 s128 hy128 ry128 => ?_)
                  refine xi_iastore (pc' := 11) (x' := y128) kc_12_10 rfl A125 rfl (xi_in (by decide) (by rw [hy125]; decide)) s128 (fun hh128 eh128 => ?_)
                  have K129 := xk_pa K17 (xk_wa rfl) xD_140 hy128 ry128 eh128
                  refine xi_iload_n (pc' := 12) (x := (-1)) kc_12_11 rfl rfl ?_
                  refine xi_ireturn kc_12_12 mr_12 rfl ?_
                  show xw J ov (d + 3) 32 (62, [(0, .ref 115), (1, .int x1), (2, .int x2), (3, .int x3), (4, .int x4)], [.int (-1)], hh128) _
                  refine xi_ireturn kc_32_62 mr_32 rfl ?_
                  have zcm1 : ((-1) : Int32).toInt = (-1) := by decide
                  exact kk (-1) hh128 (by omega) K129
                · refine xi_ift (pc' := 63) kc_32_54 rfl (xc_ne_t (X := v123.toInt) (Y := 0) rfl (by decide) (by omega)) ?_
                  refine xi_iload_n (pc' := 64) (x := x3) kc_32_63 rfl rfl ?_
                  refine xi_iconst (pc' := 65) (v := 1) kc_32_64 rfl rfl ?_
                  by_cases c130 : x3.toInt < 1
                  · refine xi_cmt (pc' := 73) kc_32_65 rfl (xc_lt_t (X := x3.toInt) (Y := 1) rfl (by decide) (by omega)) ?_
                    refine xi_aload_n (pc' := 74) (x := 115) kc_32_73 rfl rfl ?_
                    refine xi_bipush (pc' := 76) (v := (-4)) kc_32_74 rfl rfl ?_
                    refine xi_virtual (mj := 12) (as := [.int (-4)]) (st1 := []) (lv0 := [(0, .ref 115), (1, .int (-4))]) kc_32_76 rfl rfl rfl rfl rfl eh15.1 (Nat.le_of_ble_eq_true rfl) (hJ _ _ _ _ (by decide)) (xm_le ml_12 rfl) rfl ?_
                    refine xi_aload_n (pc' := 1) (x := 115) kc_12_0 rfl rfl ?_
                    refine xi_getfield (pc' := 4) (v := .ref 140) kc_12_1 rfl rfl rfl eh15.1 rfl ?_
                    refine xi_iload_n (pc' := 5) (x := (-4)) kc_12_4 rfl rfl ?_
                    refine xi_ineg (pc' := 6) (v := 4) kc_12_5 rfl rfl ?_
                    refine xi_dup2 (pc' := 7) kc_12_6 rfl ⟨rfl, rfl⟩ ?_
                    refine xcps4 (xk_arr K17.1 xD_140) (fun y131 A131 hy131 ry131 => ?_)
                    refine xcps4 (xj_get hy131 ry131 (i := 4) (by decide) (by decide)) (fun v132 ev132 bv132 dv132 => ?_)
                    refine xi_iaload (pc' := 8) (v := v132) kc_12_7 rfl A131 (by decide) rfl (xi_in (by decide) (by rw [hy131]; decide)) ev132 ?_
                    refine xi_iconst (pc' := 9) (v := 1) kc_12_8 rfl rfl ?_
                    refine xcps2 (α := Int32) ((v132 : Int32) + 1) (fun v133 ev133 => ?_)
                    have rv133 := xc_rng v133
                    refine xi_iadd (pc' := 10) (v := v133) kc_12_9 rfl ev133 ?_
                    refine xcps4 (xj_set (v := v133) hy131 ry131 4 (by first | omega | decide) (by first | omega | decide)) (fun y134 s134 hy134 ry134 => ?_)
                    refine xi_iastore (pc' := 11) (x' := y134) kc_12_10 rfl A131 rfl (xi_in (by decide) (by rw [hy131]; decide)) s134 (fun hh134 eh134 => ?_)
                    have K135 := xk_pa K17 (xk_wa rfl) xD_140 hy134 ry134 eh134
                    refine xi_iload_n (pc' := 12) (x := (-4)) kc_12_11 rfl rfl ?_
                    refine xi_ireturn kc_12_12 mr_12 rfl ?_
                    show xw J ov (d + 3) 32 (79, [(0, .ref 115), (1, .int x1), (2, .int x2), (3, .int x3), (4, .int x4)], [.int (-4)], hh134) _
                    refine xi_ireturn kc_32_79 mr_32 rfl ?_
                    have zcm4 : ((-4) : Int32).toInt = (-4) := by decide
                    exact kk (-4) hh134 (by omega) K135
                  · refine xi_cmf (pc' := 68) kc_32_65 rfl (xc_lt_f (X := x3.toInt) (Y := 1) rfl (by decide) (by omega)) ?_
                    refine xi_iload (pc' := 70) (x := x4) kc_32_68 rfl rfl ?_
                    by_cases c136 : 0 ≤ x4.toInt
                    · refine xi_ift (pc' := 80) kc_32_70 rfl (xc_ge_t (X := x4.toInt) (Y := 0) rfl (by decide) (by omega)) ?_
                      refine xi_iload_n (pc' := 81) (x := x3) kc_32_80 rfl rfl ?_
                      refine xi_bipush (pc' := 83) (v := 99) kc_32_81 rfl rfl ?_
                      by_cases c137 : 99 < x3.toInt
                      · refine xi_cmt (pc' := 103) kc_32_83 rfl (xc_gt_t (X := x3.toInt) (Y := 99) rfl (by decide) (by omega)) ?_
                        refine xi_aload_n (pc' := 104) (x := 115) kc_32_103 rfl rfl ?_
                        refine xi_bipush (pc' := 106) (v := (-6)) kc_32_104 rfl rfl ?_
                        refine xi_virtual (mj := 12) (as := [.int (-6)]) (st1 := []) (lv0 := [(0, .ref 115), (1, .int (-6))]) kc_32_106 rfl rfl rfl rfl rfl eh15.1 (Nat.le_of_ble_eq_true rfl) (hJ _ _ _ _ (by decide)) (xm_le ml_12 rfl) rfl ?_
                        refine xi_aload_n (pc' := 1) (x := 115) kc_12_0 rfl rfl ?_
                        refine xi_getfield (pc' := 4) (v := .ref 140) kc_12_1 rfl rfl rfl eh15.1 rfl ?_
                        refine xi_iload_n (pc' := 5) (x := (-6)) kc_12_4 rfl rfl ?_
                        refine xi_ineg (pc' := 6) (v := 6) kc_12_5 rfl rfl ?_
                        refine xi_dup2 (pc' := 7) kc_12_6 rfl ⟨rfl, rfl⟩ ?_
                        refine xcps4 (xk_arr K17.1 xD_140) (fun y138 A138 hy138 ry138 => ?_)
                        refine xcps4 (xj_get hy138 ry138 (i := 6) (by decide) (by decide)) (fun v139 ev139 bv139 dv139 => ?_)
                        refine xi_iaload (pc' := 8) (v := v139) kc_12_7 rfl A138 (by decide) rfl (xi_in (by decide) (by rw [hy138]; decide)) ev139 ?_
                        refine xi_iconst (pc' := 9) (v := 1) kc_12_8 rfl rfl ?_
                        refine xcps2 (α := Int32) ((v139 : Int32) + 1) (fun v140 ev140 => ?_)
                        have rv140 := xc_rng v140
                        refine xi_iadd (pc' := 10) (v := v140) kc_12_9 rfl ev140 ?_
                        refine xcps4 (xj_set (v := v140) hy138 ry138 6 (by first | omega | decide) (by first | omega | decide)) (fun y141 s141 hy141 ry141 => ?_)
                        refine xi_iastore (pc' := 11) (x' := y141) kc_12_10 rfl A138 rfl (xi_in (by decide) (by rw [hy138]; decide)) s141 (fun hh141 eh141 => ?_)
                        have K142 := xk_pa K17 (xk_wa rfl) xD_140 hy141 ry141 eh141
                        refine xi_iload_n (pc' := 12) (x := (-6)) kc_12_11 rfl rfl ?_
                        refine xi_ireturn kc_12_12 mr_12 rfl ?_
                        show xw J ov (d + 3) 32 (109, [(0, .ref 115), (1, .int x1), (2, .int x2), (3, .int x3), (4, .int x4)], [.int (-6)], hh141) _
                        refine xi_ireturn kc_32_109 mr_32 rfl ?_
                        have zcm6 : ((-6) : Int32).toInt = (-6) := by decide
                        exact kk (-6) hh141 (by omega) K142
                      · refine xi_cmf (pc' := 86) kc_32_83 rfl (xc_gt_f (X := x3.toInt) (Y := 99) rfl (by decide) (by omega)) ?_
                        refine xi_iload (pc' := 88) (x := x4) kc_32_86 rfl rfl ?_
                        refine xi_sipush (pc' := 91) (v := 600) kc_32_88 rfl rfl ?_
                        by_cases c143 : 600 < x4.toInt
                        · refine xi_cmt (pc' := 103) kc_32_91 rfl (xc_gt_t (X := x4.toInt) (Y := 600) rfl (by decide) (by omega)) ?_
                          refine xi_aload_n (pc' := 104) (x := 115) kc_32_103 rfl rfl ?_
                          refine xi_bipush (pc' := 106) (v := (-6)) kc_32_104 rfl rfl ?_
                          refine xi_virtual (mj := 12) (as := [.int (-6)]) (st1 := []) (lv0 := [(0, .ref 115), (1, .int (-6))]) kc_32_106 rfl rfl rfl rfl rfl eh15.1 (Nat.le_of_ble_eq_true rfl) (hJ _ _ _ _ (by decide)) (xm_le ml_12 rfl) rfl ?_
                          refine xi_aload_n (pc' := 1) (x := 115) kc_12_0 rfl rfl ?_
                          refine xi_getfield (pc' := 4) (v := .ref 140) kc_12_1 rfl rfl rfl eh15.1 rfl ?_
                          refine xi_iload_n (pc' := 5) (x := (-6)) kc_12_4 rfl rfl ?_
                          refine xi_ineg (pc' := 6) (v := 6) kc_12_5 rfl rfl ?_
                          refine xi_dup2 (pc' := 7) kc_12_6 rfl ⟨rfl, rfl⟩ ?_
                          refine xcps4 (xk_arr K17.1 xD_140) (fun y144 A144 hy144 ry144 => ?_)
                          refine xcps4 (xj_get hy144 ry144 (i := 6) (by decide) (by decide)) (fun v145 ev145 bv145 dv145 => ?_)
                          refine xi_iaload (pc' := 8) (v := v145) kc_12_7 rfl A144 (by decide) rfl (xi_in (by decide) (by rw [hy144]; decide)) ev145 ?_
                          refine xi_iconst (pc' := 9) (v := 1) kc_12_8 rfl rfl ?_
                          refine xcps2 (α := Int32) ((v145 : Int32) + 1) (fun v146 ev146 => ?_)
                          have rv146 := xc_rng v146
                          refine xi_iadd (pc' := 10) (v := v146) kc_12_9 rfl ev146 ?_
                          refine xcps4 (xj_set (v := v146) hy144 ry144 6 (by first | omega | decide) (by first | omega | decide)) (fun y147 s147 hy147 ry147 => ?_)
                          refine xi_iastore (pc' := 11) (x' := y147) kc_12_10 rfl A144 rfl (xi_in (by decide) (by rw [hy144]; decide)) s147 (fun hh147 eh147 => ?_)
                          have K148 := xk_pa K17 (xk_wa rfl) xD_140 hy147 ry147 eh147
                          refine xi_iload_n (pc' := 12) (x := (-6)) kc_12_11 rfl rfl ?_
                          refine xi_ireturn kc_12_12 mr_12 rfl ?_
                          show xw J ov (d + 3) 32 (109, [(0, .ref 115), (1, .int x1), (2, .int x2), (3, .int x3), (4, .int x4)], [.int (-6)], hh147) _
                          refine xi_ireturn kc_32_109 mr_32 rfl ?_
                          have zcm6 : ((-6) : Int32).toInt = (-6) := by decide
                          exact kk (-6) hh147 (by omega) K148
                        · refine xi_cmf (pc' := 94) kc_32_91 rfl (xc_gt_f (X := x4.toInt) (Y := 600) rfl (by decide) (by omega)) ?_
                          refine xi_aload_n (pc' := 95) (x := 115) kc_32_94 rfl rfl ?_
                          refine xi_getfield (pc' := 98) (v := .int u5) kc_32_95 rfl rfl rfl eh15.1 rfl ?_
                          refine xi_bipush (pc' := 100) (v := 10) kc_32_98 rfl rfl ?_
                          by_cases c149 : u5.toInt = 10
                          · refine xi_cmf (pc' := 103) kc_32_100 rfl (xc_ne_f (X := u5.toInt) (Y := 10) rfl (by decide) (by omega)) ?_
                            refine xi_aload_n (pc' := 104) (x := 115) kc_32_103 rfl rfl ?_
                            refine xi_bipush (pc' := 106) (v := (-6)) kc_32_104 rfl rfl ?_
                            refine xi_virtual (mj := 12) (as := [.int (-6)]) (st1 := []) (lv0 := [(0, .ref 115), (1, .int (-6))]) kc_32_106 rfl rfl rfl rfl rfl eh15.1 (Nat.le_of_ble_eq_true rfl) (hJ _ _ _ _ (by decide)) (xm_le ml_12 rfl) rfl ?_
                            refine xi_aload_n (pc' := 1) (x := 115) kc_12_0 rfl rfl ?_
                            refine xi_getfield (pc' := 4) (v := .ref 140) kc_12_1 rfl rfl rfl eh15.1 rfl ?_
                            refine xi_iload_n (pc' := 5) (x := (-6)) kc_12_4 rfl rfl ?_
                            refine xi_ineg (pc' := 6) (v := 6) kc_12_5 rfl rfl ?_
                            refine xi_dup2 (pc' := 7) kc_12_6 rfl ⟨rfl, rfl⟩ ?_
                            refine xcps4 (xk_arr K17.1 xD_140) (fun y150 A150 hy150 ry150 => ?_)
                            refine xcps4 (xj_get hy150 ry150 (i := 6) (by decide) (by decide)) (fun v151 ev151 bv151 dv151 => ?_)
                            refine xi_iaload (pc' := 8) (v := v151) kc_12_7 rfl A150 (by decide) rfl (xi_in (by decide) (by rw [hy150]; decide)) ev151 ?_
                            refine xi_iconst (pc' := 9) (v := 1) kc_12_8 rfl rfl ?_
                            refine xcps2 (α := Int32) ((v151 : Int32) + 1) (fun v152 ev152 => ?_)
                            have rv152 := xc_rng v152
                            refine xi_iadd (pc' := 10) (v := v152) kc_12_9 rfl ev152 ?_
                            refine xcps4 (xj_set (v := v152) hy150 ry150 6 (by first | omega | decide) (by first | omega | decide)) (fun y153 s153 hy153 ry153 => ?_)
                            refine xi_iastore (pc' := 11) (x' := y153) kc_12_10 rfl A150 rfl (xi_in (by decide) (by rw [hy150]; decide)) s153 (fun hh153 eh153 => ?_)
                            have K154 := xk_pa K17 (xk_wa rfl) xD_140 hy153 ry153 eh153
                            refine xi_iload_n (pc' := 12) (x := (-6)) kc_12_11 rfl rfl ?_
                            refine xi_ireturn kc_12_12 mr_12 rfl ?_
                            show xw J ov (d + 3) 32 (109, [(0, .ref 115), (1, .int x1), (2, .int x2), (3, .int x3), (4, .int x4)], [.int (-6)], hh153) _
                            refine xi_ireturn kc_32_109 mr_32 rfl ?_
                            have zcm6 : ((-6) : Int32).toInt = (-6) := by decide
                            exact kk (-6) hh153 (by omega) K154
                          · refine xi_cmt (pc' := 110) kc_32_100 rfl (xc_ne_t (X := u5.toInt) (Y := 10) rfl (by decide) (by omega)) ?_
                            refine xi_aload_n (pc' := 111) (x := 115) kc_32_110 rfl rfl ?_
                            refine xi_getfield (pc' := 114) (v := .ref 135) kc_32_111 rfl rfl rfl eh15.1 rfl ?_
                            refine xi_aload_n (pc' := 115) (x := 115) kc_32_114 rfl rfl ?_
                            refine xi_getfield (pc' := 118) (v := .int u5) kc_32_115 rfl rfl rfl eh15.1 rfl ?_
                            refine xi_iload_n (pc' := 119) (x := x1) kc_32_118 rfl rfl ?_
                            refine xcps4 (xk_arr K17.1 xD_135) (fun y155 A155 hy155 ry155 => ?_)
                            refine xcps4 (xj_set (v := x1) hy155 ry155 u5 (by first | omega | decide) (by first | omega | decide)) (fun y156 s156 hy156 ry156 => ?_)
                            refine xi_iastore (pc' := 120) (x' := y156) kc_32_119 rfl A155 rfl (xi_in (by omega) (by rw [hy155]; omega)) s156 (fun hh156 eh156 => ?_)
                            have K157 := xk_pa K17 (xk_wa rfl) xD_135 hy156 ry156 eh156
                            refine xi_aload_n (pc' := 121) (x := 115) kc_32_120 rfl rfl ?_
                            have A158 := ((eh156.2.1 115 (by decide)).trans eh15.1)
                            refine xi_getfield (pc' := 124) (v := .ref 136) kc_32_121 rfl rfl rfl A158 rfl ?_
                            refine xi_aload_n (pc' := 125) (x := 115) kc_32_124 rfl rfl ?_
                            refine xi_getfield (pc' := 128) (v := .int u5) kc_32_125 rfl rfl rfl A158 rfl ?_
                            refine xi_iload_n (pc' := 129) (x := x2) kc_32_128 rfl rfl ?_
                            refine xcps4 (xk_arr K157.1 xD_136) (fun y159 A159 hy159 ry159 => ?_)
                            refine xcps4 (xj_set (v := x2) hy159 ry159 u5 (by first | omega | decide) (by first | omega | decide)) (fun y160 s160 hy160 ry160 => ?_)
                            refine xi_iastore (pc' := 130) (x' := y160) kc_32_129 rfl A159 rfl (xi_in (by omega) (by rw [hy159]; omega)) s160 (fun hh160 eh160 => ?_)
                            have K161 := xk_pa K157 (xk_wa rfl) xD_136 hy160 ry160 eh160
                            refine xi_aload_n (pc' := 131) (x := 115) kc_32_130 rfl rfl ?_
                            have A162 := ((eh160.2.1 115 (by decide)).trans A158)
                            refine xi_getfield (pc' := 134) (v := .ref 137) kc_32_131 rfl rfl rfl A162 rfl ?_
                            refine xi_aload_n (pc' := 135) (x := 115) kc_32_134 rfl rfl ?_
                            refine xi_getfield (pc' := 138) (v := .int u5) kc_32_135 rfl rfl rfl A162 rfl ?_
                            refine xi_iload_n (pc' := 139) (x := x3) kc_32_138 rfl rfl ?_
                            refine xcps4 (xk_arr K161.1 xD_137) (fun y163 A163 hy163 ry163 => ?_)
                            refine xcps4 (xj_set (v := x3) hy163 ry163 u5 (by first | omega | decide) (by first | omega | decide)) (fun y164 s164 hy164 ry164 => ?_)
                            refine xi_iastore (pc' := 140) (x' := y164) kc_32_139 rfl A163 rfl (xi_in (by omega) (by rw [hy163]; omega)) s164 (fun hh164 eh164 => ?_)
                            have K165 := xk_pa K161 (xk_wa rfl) xD_137 hy164 ry164 eh164
                            refine xi_aload_n (pc' := 141) (x := 115) kc_32_140 rfl rfl ?_
                            have A166 := ((eh164.2.1 115 (by decide)).trans A162)
                            refine xi_getfield (pc' := 144) (v := .ref 138) kc_32_141 rfl rfl rfl A166 rfl ?_
                            refine xi_aload_n (pc' := 145) (x := 115) kc_32_144 rfl rfl ?_
                            refine xi_getfield (pc' := 148) (v := .int u5) kc_32_145 rfl rfl rfl A166 rfl ?_
                            refine xi_iload (pc' := 150) (x := x4) kc_32_148 rfl rfl ?_
                            refine xcps4 (xk_arr K165.1 xD_138) (fun y167 A167 hy167 ry167 => ?_)
                            refine xcps4 (xj_set (v := x4) hy167 ry167 u5 (by first | omega | decide) (by first | omega | decide)) (fun y168 s168 hy168 ry168 => ?_)
                            refine xi_iastore (pc' := 151) (x' := y168) kc_32_150 rfl A167 rfl (xi_in (by omega) (by rw [hy167]; omega)) s168 (fun hh168 eh168 => ?_)
                            have K169 := xk_pa K165 (xk_wa rfl) xD_138 hy168 ry168 eh168
                            refine xi_aload_n (pc' := 152) (x := 115) kc_32_151 rfl rfl ?_
                            have A170 := ((eh168.2.1 115 (by decide)).trans A166)
                            refine xi_getfield (pc' := 155) (v := .ref 139) kc_32_152 rfl rfl rfl A170 rfl ?_
                            refine xi_aload_n (pc' := 156) (x := 115) kc_32_155 rfl rfl ?_
                            refine xi_getfield (pc' := 159) (v := .int u5) kc_32_156 rfl rfl rfl A170 rfl ?_
                            refine xi_iconst (pc' := 160) (v := 0) kc_32_159 rfl rfl ?_
                            refine xcps4 (xk_arr K169.1 xD_139) (fun y171 A171 hy171 ry171 => ?_)
                            refine xcps4 (xj_set (v := 0) hy171 ry171 u5 (by first | omega | decide) (by first | omega | decide)) (fun y172 s172 hy172 ry172 => ?_)
                            refine xi_bastore (pc' := 161) (x' := y172) kc_32_160 rfl A171 rfl (xi_in (by omega) (by rw [hy171]; omega)) s172 (fun hh172 eh172 => ?_)
                            have K173 := xk_pa K169 (xk_wa rfl) xD_139 hy172 ry172 eh172
                            refine xi_aload_n (pc' := 162) (x := 115) kc_32_161 rfl rfl ?_
                            refine xi_dup (pc' := 163) kc_32_162 rfl rfl ?_
                            have A174 := ((eh172.2.1 115 (by decide)).trans A170)
                            refine xi_getfield (pc' := 166) (v := .int u5) kc_32_163 rfl rfl rfl A174 rfl ?_
                            refine xi_iconst (pc' := 167) (v := 1) kc_32_166 rfl rfl ?_
                            refine xcps2 (α := Int32) (u5 + 1) (fun v175 ev175 => ?_)
                            have zv175 : v175.toInt = (u5.toInt + 1) := by rw [← ev175]; exact (xz_add (X := u5.toInt) (Y := 1) rfl (by decide) (by omega) (by omega)).trans (by omega)
                            refine xi_iadd (pc' := 168) (v := v175) kc_32_167 rfl ev175 ?_
                            refine xi_putfield (pc' := 171) (fs' := [.int 0, .int u2, .ref 116, .ref 117, .ref 118, .ref 119, .ref 120, .ref 121, .ref 122, .ref 123, .ref 124, .ref 125, .ref 126, .ref 127, .ref 128, .ref 129, .int u3, .ref 130, .int u4, .ref 131, .ref 132, .ref 133, .ref 134, .int v175, .ref 135, .ref 136, .ref 137, .ref 138, .ref 139, .ref 140, .ref 141, .ref 142, .int u6, .int u7, .int u8, .ref 143, .ref 144, .ref 145, .ref 146, .ref 147, .ref 148, .int u9, .ref 149, .ref 150, .ref 151, .int u10, .ref 152, .ref 153, .ref 154, .ref 155, .ref 156, .ref 157, .ref 158, .ref 159, .int u11, .ref 160, .int u12, .ref 161, .ref 162, .ref 163, .ref 164, .int u13, .ref 165, .ref 166]) kc_32_168 rfl rfl rfl A174 rfl rfl rfl (Nat.le_of_ble_eq_true rfl) rfl (fun hh177 eh176 => ?_)
                            have K178 := xk_pf (k := 23) (v := v175) K173 (xk_wf rfl) xD_115 A174 rfl (by first | omega | decide) (by first | omega | decide) eh176 rfl
                            refine xi_aload_n (pc' := 172) (x := 115) kc_32_171 rfl rfl ?_
                            refine xi_iconst (pc' := 173) (v := 0) kc_32_172 rfl rfl ?_
                            refine xi_putfield (pc' := 176) (fs' := [.int 0, .int u2, .ref 116, .ref 117, .ref 118, .ref 119, .ref 120, .ref 121, .ref 122, .ref 123, .ref 124, .ref 125, .ref 126, .ref 127, .ref 128, .ref 129, .int u3, .ref 130, .int u4, .ref 131, .ref 132, .ref 133, .ref 134, .int v175, .ref 135, .ref 136, .ref 137, .ref 138, .ref 139, .ref 140, .ref 141, .ref 142, .int u6, .int u7, .int u8, .ref 143, .ref 144, .ref 145, .ref 146, .ref 147, .ref 148, .int 0, .ref 149, .ref 150, .ref 151, .int u10, .ref 152, .ref 153, .ref 154, .ref 155, .ref 156, .ref 157, .ref 158, .ref 159, .int u11, .ref 160, .int u12, .ref 161, .ref 162, .ref 163, .ref 164, .int u13, .ref 165, .ref 166]) kc_32_173 rfl rfl rfl eh176.1 rfl rfl rfl (Nat.le_of_ble_eq_true rfl) rfl (fun hh180 eh179 => ?_)
                            have K181 := xk_pf (k := 41) (v := 0) K178 (xk_wf rfl) xD_115 eh176.1 rfl (by first | omega | decide) (by first | omega | decide) eh179 rfl
                            refine xi_aload_n (pc' := 177) (x := 115) kc_32_176 rfl rfl ?_
                            refine xi_getfield (pc' := 180) (v := .int v175) kc_32_177 rfl rfl rfl eh179.1 rfl ?_
                            refine xi_iconst (pc' := 181) (v := 1) kc_32_180 rfl rfl ?_
                            refine xcps2 (α := Int32) (v175 - 1) (fun v182 ev182 => ?_)
                            have zv182 : v182.toInt = u5.toInt := by rw [← ev182]; exact (xz_sub (X := (u5.toInt + 1)) (Y := 1) zv175 (by decide) (by omega) (by omega)).trans (by omega)
                            refine xi_isub (pc' := 182) (v := v182) kc_32_181 rfl ev182 ?_
                            refine xi_ireturn kc_32_182 mr_32 rfl ?_
                            exact kk v182 hh180 (by omega) K181
                    · refine xi_iff (pc' := 73) kc_32_70 rfl (xc_ge_f (X := x4.toInt) (Y := 0) rfl (by decide) (by omega)) ?_
                      refine xi_aload_n (pc' := 74) (x := 115) kc_32_73 rfl rfl ?_
                      refine xi_bipush (pc' := 76) (v := (-4)) kc_32_74 rfl rfl ?_
                      refine xi_virtual (mj := 12) (as := [.int (-4)]) (st1 := []) (lv0 := [(0, .ref 115), (1, .int (-4))]) kc_32_76 rfl rfl rfl rfl rfl eh15.1 (Nat.le_of_ble_eq_true rfl) (hJ _ _ _ _ (by decide)) (xm_le ml_12 rfl) rfl ?_
                      refine xi_aload_n (pc' := 1) (x := 115) kc_12_0 rfl rfl ?_
                      refine xi_getfield (pc' := 4) (v := .ref 140) kc_12_1 rfl rfl rfl eh15.1 rfl ?_
                      refine xi_iload_n (pc' := 5) (x := (-4)) kc_12_4 rfl rfl ?_
                      refine xi_ineg (pc' := 6) (v := 4) kc_12_5 rfl rfl ?_
                      refine xi_dup2 (pc' := 7) kc_12_6 rfl ⟨rfl, rfl⟩ ?_
                      refine xcps4 (xk_arr K17.1 xD_140) (fun y183 A183 hy183 ry183 => ?_)
                      refine xcps4 (xj_get hy183 ry183 (i := 4) (by decide) (by decide)) (fun v184 ev184 bv184 dv184 => ?_)
                      refine xi_iaload (pc' := 8) (v := v184) kc_12_7 rfl A183 (by decide) rfl (xi_in (by decide) (by rw [hy183]; decide)) ev184 ?_
                      refine xi_iconst (pc' := 9) (v := 1) kc_12_8 rfl rfl ?_
                      refine xcps2 (α := Int32) ((v184 : Int32) + 1) (fun v185 ev185 => ?_)
                      have rv185 := xc_rng v185
                      refine xi_iadd (pc' := 10) (v := v185) kc_12_9 rfl ev185 ?_
                      refine xcps4 (xj_set (v := v185) hy183 ry183 4 (by first | omega | decide) (by first | omega | decide)) (fun y186 s186 hy186 ry186 => ?_)
                      refine xi_iastore (pc' := 11) (x' := y186) kc_12_10 rfl A183 rfl (xi_in (by decide) (by rw [hy183]; decide)) s186 (fun hh186 eh186 => ?_)
                      have K187 := xk_pa K17 (xk_wa rfl) xD_140 hy186 ry186 eh186
                      refine xi_iload_n (pc' := 12) (x := (-4)) kc_12_11 rfl rfl ?_
                      refine xi_ireturn kc_12_12 mr_12 rfl ?_
                      show xw J ov (d + 3) 32 (79, [(0, .ref 115), (1, .int x1), (2, .int x2), (3, .int x3), (4, .int x4)], [.int (-4)], hh186) _
                      refine xi_ireturn kc_32_79 mr_32 rfl ?_
                      have zcm4 : ((-4) : Int32).toInt = (-4) := by decide
                      exact kk (-4) hh186 (by omega) K187
              · refine xi_ift (pc' := 63) kc_32_45 rfl (xc_ne_t (X := x1.toInt) (Y := 0) rfl (by decide) (by omega)) ?_
                refine xi_iload_n (pc' := 64) (x := x3) kc_32_63 rfl rfl ?_
                refine xi_iconst (pc' := 65) (v := 1) kc_32_64 rfl rfl ?_
                by_cases c188 : x3.toInt < 1
                · refine xi_cmt (pc' := 73) kc_32_65 rfl (xc_lt_t (X := x3.toInt) (Y := 1) rfl (by decide) (by omega)) ?_
                  refine xi_aload_n (pc' := 74) (x := 115) kc_32_73 rfl rfl ?_
                  refine xi_bipush (pc' := 76) (v := (-4)) kc_32_74 rfl rfl ?_
                  refine xi_virtual (mj := 12) (as := [.int (-4)]) (st1 := []) (lv0 := [(0, .ref 115), (1, .int (-4))]) kc_32_76 rfl rfl rfl rfl rfl eh15.1 (Nat.le_of_ble_eq_true rfl) (hJ _ _ _ _ (by decide)) (xm_le ml_12 rfl) rfl ?_
                  refine xi_aload_n (pc' := 1) (x := 115) kc_12_0 rfl rfl ?_
                  refine xi_getfield (pc' := 4) (v := .ref 140) kc_12_1 rfl rfl rfl eh15.1 rfl ?_
                  refine xi_iload_n (pc' := 5) (x := (-4)) kc_12_4 rfl rfl ?_
                  refine xi_ineg (pc' := 6) (v := 4) kc_12_5 rfl rfl ?_
                  refine xi_dup2 (pc' := 7) kc_12_6 rfl ⟨rfl, rfl⟩ ?_
                  refine xcps4 (xk_arr K17.1 xD_140) (fun y189 A189 hy189 ry189 => ?_)
                  refine xcps4 (xj_get hy189 ry189 (i := 4) (by decide) (by decide)) (fun v190 ev190 bv190 dv190 => ?_)
                  refine xi_iaload (pc' := 8) (v := v190) kc_12_7 rfl A189 (by decide) rfl (xi_in (by decide) (by rw [hy189]; decide)) ev190 ?_
                  refine xi_iconst (pc' := 9) (v := 1) kc_12_8 rfl rfl ?_
                  refine xcps2 (α := Int32) ((v190 : Int32) + 1) (fun v191 ev191 => ?_)
                  have rv191 := xc_rng v191
                  refine xi_iadd (pc' := 10) (v := v191) kc_12_9 rfl ev191 ?_
                  refine xcps4 (xj_set (v := v191) hy189 ry189 4 (by first | omega | decide) (by first | omega | decide)) (fun y192 s192 hy192 ry192 => ?_)
                  refine xi_iastore (pc' := 11) (x' := y192) kc_12_10 rfl A189 rfl (xi_in (by decide) (by rw [hy189]; decide)) s192 (fun hh192 eh192 => ?_)
                  have K193 := xk_pa K17 (xk_wa rfl) xD_140 hy192 ry192 eh192
                  refine xi_iload_n (pc' := 12) (x := (-4)) kc_12_11 rfl rfl ?_
                  refine xi_ireturn kc_12_12 mr_12 rfl ?_
                  show xw J ov (d + 3) 32 (79, [(0, .ref 115), (1, .int x1), (2, .int x2), (3, .int x3), (4, .int x4)], [.int (-4)], hh192) _
                  refine xi_ireturn kc_32_79 mr_32 rfl ?_
                  have zcm4 : ((-4) : Int32).toInt = (-4) := by decide
                  exact kk (-4) hh192 (by omega) K193
                · refine xi_cmf (pc' := 68) kc_32_65 rfl (xc_lt_f (X := x3.toInt) (Y := 1) rfl (by decide) (by omega)) ?_
                  refine xi_iload (pc' := 70) (x := x4) kc_32_68 rfl rfl ?_
                  by_cases c194 : 0 ≤ x4.toInt
                  · refine xi_ift (pc' := 80) kc_32_70 rfl (xc_ge_t (X := x4.toInt) (Y := 0) rfl (by decide) (by omega)) ?_
                    refine xi_iload_n (pc' := 81) (x := x3) kc_32_80 rfl rfl ?_
                    refine xi_bipush (pc' := 83) (v := 99) kc_32_81 rfl rfl ?_
                    by_cases c195 : 99 < x3.toInt
                    · refine xi_cmt (pc' := 103) kc_32_83 rfl (xc_gt_t (X := x3.toInt) (Y := 99) rfl (by decide) (by omega)) ?_
                      refine xi_aload_n (pc' := 104) (x := 115) kc_32_103 rfl rfl ?_
                      refine xi_bipush (pc' := 106) (v := (-6)) kc_32_104 rfl rfl ?_
                      refine xi_virtual (mj := 12) (as := [.int (-6)]) (st1 := []) (lv0 := [(0, .ref 115), (1, .int (-6))]) kc_32_106 rfl rfl rfl rfl rfl eh15.1 (Nat.le_of_ble_eq_true rfl) (hJ _ _ _ _ (by decide)) (xm_le ml_12 rfl) rfl ?_
                      refine xi_aload_n (pc' := 1) (x := 115) kc_12_0 rfl rfl ?_
                      refine xi_getfield (pc' := 4) (v := .ref 140) kc_12_1 rfl rfl rfl eh15.1 rfl ?_
                      refine xi_iload_n (pc' := 5) (x := (-6)) kc_12_4 rfl rfl ?_
                      refine xi_ineg (pc' := 6) (v := 6) kc_12_5 rfl rfl ?_
                      refine xi_dup2 (pc' := 7) kc_12_6 rfl ⟨rfl, rfl⟩ ?_
                      refine xcps4 (xk_arr K17.1 xD_140) (fun y196 A196 hy196 ry196 => ?_)
                      refine xcps4 (xj_get hy196 ry196 (i := 6) (by decide) (by decide)) (fun v197 ev197 bv197 dv197 => ?_)
                      refine xi_iaload (pc' := 8) (v := v197) kc_12_7 rfl A196 (by decide) rfl (xi_in (by decide) (by rw [hy196]; decide)) ev197 ?_
                      refine xi_iconst (pc' := 9) (v := 1) kc_12_8 rfl rfl ?_
                      refine xcps2 (α := Int32) ((v197 : Int32) + 1) (fun v198 ev198 => ?_)
                      have rv198 := xc_rng v198
                      refine xi_iadd (pc' := 10) (v := v198) kc_12_9 rfl ev198 ?_
                      refine xcps4 (xj_set (v := v198) hy196 ry196 6 (by first | omega | decide) (by first | omega | decide)) (fun y199 s199 hy199 ry199 => ?_)
                      refine xi_iastore (pc' := 11) (x' := y199) kc_12_10 rfl A196 rfl (xi_in (by decide) (by rw [hy196]; decide)) s199 (fun hh199 eh199 => ?_)
                      have K200 := xk_pa K17 (xk_wa rfl) xD_140 hy199 ry199 eh199
                      refine xi_iload_n (pc' := 12) (x := (-6)) kc_12_11 rfl rfl ?_
                      refine xi_ireturn kc_12_12 mr_12 rfl ?_
                      show xw J ov (d + 3) 32 (109, [(0, .ref 115), (1, .int x1), (2, .int x2), (3, .int x3), (4, .int x4)], [.int (-6)], hh199) _
                      refine xi_ireturn kc_32_109 mr_32 rfl ?_
                      have zcm6 : ((-6) : Int32).toInt = (-6) := by decide
                      exact kk (-6) hh199 (by omega) K200
                    · refine xi_cmf (pc' := 86) kc_32_83 rfl (xc_gt_f (X := x3.toInt) (Y := 99) rfl (by decide) (by omega)) ?_
                      refine xi_iload (pc' := 88) (x := x4) kc_32_86 rfl rfl ?_
                      refine xi_sipush (pc' := 91) (v := 600) kc_32_88 rfl rfl ?_
                      by_cases c201 : 600 < x4.toInt
                      · refine xi_cmt (pc' := 103) kc_32_91 rfl (xc_gt_t (X := x4.toInt) (Y := 600) rfl (by decide) (by omega)) ?_
                        refine xi_aload_n (pc' := 104) (x := 115) kc_32_103 rfl rfl ?_
                        refine xi_bipush (pc' := 106) (v := (-6)) kc_32_104 rfl rfl ?_
                        refine xi_virtual (mj := 12) (as := [.int (-6)]) (st1 := []) (lv0 := [(0, .ref 115), (1, .int (-6))]) kc_32_106 rfl rfl rfl rfl rfl eh15.1 (Nat.le_of_ble_eq_true rfl) (hJ _ _ _ _ (by decide)) (xm_le ml_12 rfl) rfl ?_
                        refine xi_aload_n (pc' := 1) (x := 115) kc_12_0 rfl rfl ?_
                        refine xi_getfield (pc' := 4) (v := .ref 140) kc_12_1 rfl rfl rfl eh15.1 rfl ?_
                        refine xi_iload_n (pc' := 5) (x := (-6)) kc_12_4 rfl rfl ?_
                        refine xi_ineg (pc' := 6) (v := 6) kc_12_5 rfl rfl ?_
                        refine xi_dup2 (pc' := 7) kc_12_6 rfl ⟨rfl, rfl⟩ ?_
                        refine xcps4 (xk_arr K17.1 xD_140) (fun y202 A202 hy202 ry202 => ?_)
                        refine xcps4 (xj_get hy202 ry202 (i := 6) (by decide) (by decide)) (fun v203 ev203 bv203 dv203 => ?_)
                        refine xi_iaload (pc' := 8) (v := v203) kc_12_7 rfl A202 (by decide) rfl (xi_in (by decide) (by rw [hy202]; decide)) ev203 ?_
                        refine xi_iconst (pc' := 9) (v := 1) kc_12_8 rfl rfl ?_
                        refine xcps2 (α := Int32) ((v203 : Int32) + 1) (fun v204 ev204 => ?_)
                        have rv204 := xc_rng v204
                        refine xi_iadd (pc' := 10) (v := v204) kc_12_9 rfl ev204 ?_
                        refine xcps4 (xj_set (v := v204) hy202 ry202 6 (by first | omega | decide) (by first | omega | decide)) (fun y205 s205 hy205 ry205 => ?_)
                        refine xi_iastore (pc' := 11) (x' := y205) kc_12_10 rfl A202 rfl (xi_in (by decide) (by rw [hy202]; decide)) s205 (fun hh205 eh205 => ?_)
                        have K206 := xk_pa K17 (xk_wa rfl) xD_140 hy205 ry205 eh205
                        refine xi_iload_n (pc' := 12) (x := (-6)) kc_12_11 rfl rfl ?_
                        refine xi_ireturn kc_12_12 mr_12 rfl ?_
                        show xw J ov (d + 3) 32 (109, [(0, .ref 115), (1, .int x1), (2, .int x2), (3, .int x3), (4, .int x4)], [.int (-6)], hh205) _
                        refine xi_ireturn kc_32_109 mr_32 rfl ?_
                        have zcm6 : ((-6) : Int32).toInt = (-6) := by decide
                        exact kk (-6) hh205 (by omega) K206
                      · refine xi_cmf (pc' := 94) kc_32_91 rfl (xc_gt_f (X := x4.toInt) (Y := 600) rfl (by decide) (by omega)) ?_
                        refine xi_aload_n (pc' := 95) (x := 115) kc_32_94 rfl rfl ?_
                        refine xi_getfield (pc' := 98) (v := .int u5) kc_32_95 rfl rfl rfl eh15.1 rfl ?_
                        refine xi_bipush (pc' := 100) (v := 10) kc_32_98 rfl rfl ?_
                        by_cases c207 : u5.toInt = 10
                        · refine xi_cmf (pc' := 103) kc_32_100 rfl (xc_ne_f (X := u5.toInt) (Y := 10) rfl (by decide) (by omega)) ?_
                          refine xi_aload_n (pc' := 104) (x := 115) kc_32_103 rfl rfl ?_
                          refine xi_bipush (pc' := 106) (v := (-6)) kc_32_104 rfl rfl ?_
                          refine xi_virtual (mj := 12) (as := [.int (-6)]) (st1 := []) (lv0 := [(0, .ref 115), (1, .int (-6))]) kc_32_106 rfl rfl rfl rfl rfl eh15.1 (Nat.le_of_ble_eq_true rfl) (hJ _ _ _ _ (by decide)) (xm_le ml_12 rfl) rfl ?_
                          refine xi_aload_n (pc' := 1) (x := 115) kc_12_0 rfl rfl ?_
                          refine xi_getfield (pc' := 4) (v := .ref 140) kc_12_1 rfl rfl rfl eh15.1 rfl ?_
                          refine xi_iload_n (pc' := 5) (x := (-6)) kc_12_4 rfl rfl ?_
                          refine xi_ineg (pc' := 6) (v := 6) kc_12_5 rfl rfl ?_
                          refine xi_dup2 (pc' := 7) kc_12_6 rfl ⟨rfl, rfl⟩ ?_
                          refine xcps4 (xk_arr K17.1 xD_140) (fun y208 A208 hy208 ry208 => ?_)
                          refine xcps4 (xj_get hy208 ry208 (i := 6) (by decide) (by decide)) (fun v209 ev209 bv209 dv209 => ?_)
                          refine xi_iaload (pc' := 8) (v := v209) kc_12_7 rfl A208 (by decide) rfl (xi_in (by decide) (by rw [hy208]; decide)) ev209 ?_
                          refine xi_iconst (pc' := 9) (v := 1) kc_12_8 rfl rfl ?_
                          refine xcps2 (α := Int32) ((v209 : Int32) + 1) (fun v210 ev210 => ?_)
                          have rv210 := xc_rng v210
                          refine xi_iadd (pc' := 10) (v := v210) kc_12_9 rfl ev210 ?_
                          refine xcps4 (xj_set (v := v210) hy208 ry208 6 (by first | omega | decide) (by first | omega | decide)) (fun y211 s211 hy211 ry211 => ?_)
                          refine xi_iastore (pc' := 11) (x' := y211) kc_12_10 rfl A208 rfl (xi_in (by decide) (by rw [hy208]; decide)) s211 (fun hh211 eh211 => ?_)
                          have K212 := xk_pa K17 (xk_wa rfl) xD_140 hy211 ry211 eh211
                          refine xi_iload_n (pc' := 12) (x := (-6)) kc_12_11 rfl rfl ?_
                          refine xi_ireturn kc_12_12 mr_12 rfl ?_
                          show xw J ov (d + 3) 32 (109, [(0, .ref 115), (1, .int x1), (2, .int x2), (3, .int x3), (4, .int x4)], [.int (-6)], hh211) _
                          refine xi_ireturn kc_32_109 mr_32 rfl ?_
                          have zcm6 : ((-6) : Int32).toInt = (-6) := by decide
                          exact kk (-6) hh211 (by omega) K212
                        · refine xi_cmt (pc' := 110) kc_32_100 rfl (xc_ne_t (X := u5.toInt) (Y := 10) rfl (by decide) (by omega)) ?_
                          refine xi_aload_n (pc' := 111) (x := 115) kc_32_110 rfl rfl ?_
                          refine xi_getfield (pc' := 114) (v := .ref 135) kc_32_111 rfl rfl rfl eh15.1 rfl ?_
                          refine xi_aload_n (pc' := 115) (x := 115) kc_32_114 rfl rfl ?_
                          refine xi_getfield (pc' := 118) (v := .int u5) kc_32_115 rfl rfl rfl eh15.1 rfl ?_
                          refine xi_iload_n (pc' := 119) (x := x1) kc_32_118 rfl rfl ?_
                          refine xcps4 (xk_arr K17.1 xD_135) (fun y213 A213 hy213 ry213 => ?_)
                          refine xcps4 (xj_set (v := x1) hy213 ry213 u5 (by first | omega | decide) (by first | omega | decide)) (fun y214 s214 hy214 ry214 => ?_)
                          refine xi_iastore (pc' := 120) (x' := y214) kc_32_119 rfl A213 rfl (xi_in (by omega) (by rw [hy213]; omega)) s214 (fun hh214 eh214 => ?_)
                          have K215 := xk_pa K17 (xk_wa rfl) xD_135 hy214 ry214 eh214
                          refine xi_aload_n (pc' := 121) (x := 115) kc_32_120 rfl rfl ?_
                          have A216 := ((eh214.2.1 115 (by decide)).trans eh15.1)
                          refine xi_getfield (pc' := 124) (v := .ref 136) kc_32_121 rfl rfl rfl A216 rfl ?_
                          refine xi_aload_n (pc' := 125) (x := 115) kc_32_124 rfl rfl ?_
                          refine xi_getfield (pc' := 128) (v := .int u5) kc_32_125 rfl rfl rfl A216 rfl ?_
                          refine xi_iload_n (pc' := 129) (x := x2) kc_32_128 rfl rfl ?_
                          refine xcps4 (xk_arr K215.1 xD_136) (fun y217 A217 hy217 ry217 => ?_)
                          refine xcps4 (xj_set (v := x2) hy217 ry217 u5 (by first | omega | decide) (by first | omega | decide)) (fun y218 s218 hy218 ry218 => ?_)
                          refine xi_iastore (pc' := 130) (x' := y218) kc_32_129 rfl A217 rfl (xi_in (by omega) (by rw [hy217]; omega)) s218 (fun hh218 eh218 => ?_)
                          have K219 := xk_pa K215 (xk_wa rfl) xD_136 hy218 ry218 eh218
                          refine xi_aload_n (pc' := 131) (x := 115) kc_32_130 rfl rfl ?_
                          have A220 := ((eh218.2.1 115 (by decide)).trans A216)
                          refine xi_getfield (pc' := 134) (v := .ref 137) kc_32_131 rfl rfl rfl A220 rfl ?_
                          refine xi_aload_n (pc' := 135) (x := 115) kc_32_134 rfl rfl ?_
                          refine xi_getfield (pc' := 138) (v := .int u5) kc_32_135 rfl rfl rfl A220 rfl ?_
                          refine xi_iload_n (pc' := 139) (x := x3) kc_32_138 rfl rfl ?_
                          refine xcps4 (xk_arr K219.1 xD_137) (fun y221 A221 hy221 ry221 => ?_)
                          refine xcps4 (xj_set (v := x3) hy221 ry221 u5 (by first | omega | decide) (by first | omega | decide)) (fun y222 s222 hy222 ry222 => ?_)
                          refine xi_iastore (pc' := 140) (x' := y222) kc_32_139 rfl A221 rfl (xi_in (by omega) (by rw [hy221]; omega)) s222 (fun hh222 eh222 => ?_)
                          have K223 := xk_pa K219 (xk_wa rfl) xD_137 hy222 ry222 eh222
                          refine xi_aload_n (pc' := 141) (x := 115) kc_32_140 rfl rfl ?_
                          have A224 := ((eh222.2.1 115 (by decide)).trans A220)
                          refine xi_getfield (pc' := 144) (v := .ref 138) kc_32_141 rfl rfl rfl A224 rfl ?_
                          refine xi_aload_n (pc' := 145) (x := 115) kc_32_144 rfl rfl ?_
                          refine xi_getfield (pc' := 148) (v := .int u5) kc_32_145 rfl rfl rfl A224 rfl ?_
                          refine xi_iload (pc' := 150) (x := x4) kc_32_148 rfl rfl ?_
                          refine xcps4 (xk_arr K223.1 xD_138) (fun y225 A225 hy225 ry225 => ?_)
                          refine xcps4 (xj_set (v := x4) hy225 ry225 u5 (by first | omega | decide) (by first | omega | decide)) (fun y226 s226 hy226 ry226 => ?_)
                          refine xi_iastore (pc' := 151) (x' := y226) kc_32_150 rfl A225 rfl (xi_in (by omega) (by rw [hy225]; omega)) s226 (fun hh226 eh226 => ?_)
                          have K227 := xk_pa K223 (xk_wa rfl) xD_138 hy226 ry226 eh226
                          refine xi_aload_n (pc' := 152) (x := 115) kc_32_151 rfl rfl ?_
                          have A228 := ((eh226.2.1 115 (by decide)).trans A224)
                          refine xi_getfield (pc' := 155) (v := .ref 139) kc_32_152 rfl rfl rfl A228 rfl ?_
                          refine xi_aload_n (pc' := 156) (x := 115) kc_32_155 rfl rfl ?_
                          refine xi_getfield (pc' := 159) (v := .int u5) kc_32_156 rfl rfl rfl A228 rfl ?_
                          refine xi_iconst (pc' := 160) (v := 0) kc_32_159 rfl rfl ?_
                          refine xcps4 (xk_arr K227.1 xD_139) (fun y229 A229 hy229 ry229 => ?_)
                          refine xcps4 (xj_set (v := 0) hy229 ry229 u5 (by first | omega | decide) (by first | omega | decide)) (fun y230 s230 hy230 ry230 => ?_)
                          refine xi_bastore (pc' := 161) (x' := y230) kc_32_160 rfl A229 rfl (xi_in (by omega) (by rw [hy229]; omega)) s230 (fun hh230 eh230 => ?_)
                          have K231 := xk_pa K227 (xk_wa rfl) xD_139 hy230 ry230 eh230
                          refine xi_aload_n (pc' := 162) (x := 115) kc_32_161 rfl rfl ?_
                          refine xi_dup (pc' := 163) kc_32_162 rfl rfl ?_
                          have A232 := ((eh230.2.1 115 (by decide)).trans A228)
                          refine xi_getfield (pc' := 166) (v := .int u5) kc_32_163 rfl rfl rfl A232 rfl ?_
                          refine xi_iconst (pc' := 167) (v := 1) kc_32_166 rfl rfl ?_
                          refine xcps2 (α := Int32) (u5 + 1) (fun v233 ev233 => ?_)
                          have zv233 : v233.toInt = (u5.toInt + 1) := by rw [← ev233]; exact (xz_add (X := u5.toInt) (Y := 1) rfl (by decide) (by omega) (by omega)).trans (by omega)
                          refine xi_iadd (pc' := 168) (v := v233) kc_32_167 rfl ev233 ?_
                          refine xi_putfield (pc' := 171) (fs' := [.int 0, .int u2, .ref 116, .ref 117, .ref 118, .ref 119, .ref 120, .ref 121, .ref 122, .ref 123, .ref 124, .ref 125, .ref 126, .ref 127, .ref 128, .ref 129, .int u3, .ref 130, .int u4, .ref 131, .ref 132, .ref 133, .ref 134, .int v233, .ref 135, .ref 136, .ref 137, .ref 138, .ref 139, .ref 140, .ref 141, .ref 142, .int u6, .int u7, .int u8, .ref 143, .ref 144, .ref 145, .ref 146, .ref 147, .ref 148, .int u9, .ref 149, .ref 150, .ref 151, .int u10, .ref 152, .ref 153, .ref 154, .ref 155, .ref 156, .ref 157, .ref 158, .ref 159, .int u11, .ref 160, .int u12, .ref 161, .ref 162, .ref 163, .ref 164, .int u13, .ref 165, .ref 166]) kc_32_168 rfl rfl rfl A232 rfl rfl rfl (Nat.le_of_ble_eq_true rfl) rfl (fun hh235 eh234 => ?_)
                          have K236 := xk_pf (k := 23) (v := v233) K231 (xk_wf rfl) xD_115 A232 rfl (by first | omega | decide) (by first | omega | decide) eh234 rfl
                          refine xi_aload_n (pc' := 172) (x := 115) kc_32_171 rfl rfl ?_
                          refine xi_iconst (pc' := 173) (v := 0) kc_32_172 rfl rfl ?_
                          refine xi_putfield (pc' := 176) (fs' := [.int 0, .int u2, .ref 116, .ref 117, .ref 118, .ref 119, .ref 120, .ref 121, .ref 122, .ref 123, .ref 124, .ref 125, .ref 126, .ref 127, .ref 128, .ref 129, .int u3, .ref 130, .int u4, .ref 131, .ref 132, .ref 133, .ref 134, .int v233, .ref 135, .ref 136, .ref 137, .ref 138, .ref 139, .ref 140, .ref 141, .ref 142, .int u6, .int u7, .int u8, .ref 143, .ref 144, .ref 145, .ref 146, .ref 147, .ref 148, .int 0, .ref 149, .ref 150, .ref 151, .int u10, .ref 152, .ref 153, .ref 154, .ref 155, .ref 156, .ref 157, .ref 158, .ref 159, .int u11, .ref 160, .int u12, .ref 161, .ref 162, .ref 163, .ref 164, .int u13, .ref 165, .ref 166]) kc_32_173 rfl rfl rfl eh234.1 rfl rfl rfl (Nat.le_of_ble_eq_true rfl) rfl (fun hh238 eh237 => ?_)
                          have K239 := xk_pf (k := 41) (v := 0) K236 (xk_wf rfl) xD_115 eh234.1 rfl (by first | omega | decide) (by first | omega | decide) eh237 rfl
                          refine xi_aload_n (pc' := 177) (x := 115) kc_32_176 rfl rfl ?_
                          refine xi_getfield (pc' := 180) (v := .int v233) kc_32_177 rfl rfl rfl eh237.1 rfl ?_
                          refine xi_iconst (pc' := 181) (v := 1) kc_32_180 rfl rfl ?_
                          refine xcps2 (α := Int32) (v233 - 1) (fun v240 ev240 => ?_)
                          have zv240 : v240.toInt = u5.toInt := by rw [← ev240]; exact (xz_sub (X := (u5.toInt + 1)) (Y := 1) zv233 (by decide) (by omega) (by omega)).trans (by omega)
                          refine xi_isub (pc' := 182) (v := v240) kc_32_181 rfl ev240 ?_
                          refine xi_ireturn kc_32_182 mr_32 rfl ?_
                          exact kk v240 hh238 (by omega) K239
                  · refine xi_iff (pc' := 73) kc_32_70 rfl (xc_ge_f (X := x4.toInt) (Y := 0) rfl (by decide) (by omega)) ?_
                    refine xi_aload_n (pc' := 74) (x := 115) kc_32_73 rfl rfl ?_
                    refine xi_bipush (pc' := 76) (v := (-4)) kc_32_74 rfl rfl ?_
                    refine xi_virtual (mj := 12) (as := [.int (-4)]) (st1 := []) (lv0 := [(0, .ref 115), (1, .int (-4))]) kc_32_76 rfl rfl rfl rfl rfl eh15.1 (Nat.le_of_ble_eq_true rfl) (hJ _ _ _ _ (by decide)) (xm_le ml_12 rfl) rfl ?_
                    refine xi_aload_n (pc' := 1) (x := 115) kc_12_0 rfl rfl ?_
                    refine xi_getfield (pc' := 4) (v := .ref 140) kc_12_1 rfl rfl rfl eh15.1 rfl ?_
                    refine xi_iload_n (pc' := 5) (x := (-4)) kc_12_4 rfl rfl ?_
                    refine xi_ineg (pc' := 6) (v := 4) kc_12_5 rfl rfl ?_
                    refine xi_dup2 (pc' := 7) kc_12_6 rfl ⟨rfl, rfl⟩ ?_
                    refine xcps4 (xk_arr K17.1 xD_140) (fun y241 A241 hy241 ry241 => ?_)
                    refine xcps4 (xj_get hy241 ry241 (i := 4) (by decide) (by decide)) (fun v242 ev242 bv242 dv242 => ?_)
                    refine xi_iaload (pc' := 8) (v := v242) kc_12_7 rfl A241 (by decide) rfl (xi_in (by decide) (by rw [hy241]; decide)) ev242 ?_
                    refine xi_iconst (pc' := 9) (v := 1) kc_12_8 rfl rfl ?_
                    refine xcps2 (α := Int32) ((v242 : Int32) + 1) (fun v243 ev243 => ?_)
                    have rv243 := xc_rng v243
                    refine xi_iadd (pc' := 10) (v := v243) kc_12_9 rfl ev243 ?_
                    refine xcps4 (xj_set (v := v243) hy241 ry241 4 (by first | omega | decide) (by first | omega | decide)) (fun y244 s244 hy244 ry244 => ?_)
                    refine xi_iastore (pc' := 11) (x' := y244) kc_12_10 rfl A241 rfl (xi_in (by decide) (by rw [hy241]; decide)) s244 (fun hh244 eh244 => ?_)
                    have K245 := xk_pa K17 (xk_wa rfl) xD_140 hy244 ry244 eh244
                    refine xi_iload_n (pc' := 12) (x := (-4)) kc_12_11 rfl rfl ?_
                    refine xi_ireturn kc_12_12 mr_12 rfl ?_
                    show xw J ov (d + 3) 32 (79, [(0, .ref 115), (1, .int x1), (2, .int x2), (3, .int x3), (4, .int x4)], [.int (-4)], hh244) _
                    refine xi_ireturn kc_32_79 mr_32 rfl ?_
                    have zcm4 : ((-4) : Int32).toInt = (-4) := by decide
                    exact kk (-4) hh244 (by omega) K245
set_option maxHeartbeats 4000000 in
theorem mt_33_0 {J : xe_J} {ov : List (List Int32)} (hJ : ∀ d mj as h, mj ≠ xe_loff → J d mj as h = none) (hov1 : ov[1]? = some [10, 0, 0, 0, 0, 0]) (hov2 : ov[2]? = some [99, 30, 50, 50, 1, 99999]) {d : Nat} {Q : Option Value → xe_H → Prop} {h : xe_H} {x1 : Int32} {x2 : Int32} (T : xt h) (b2 : (0 ≤ x2.toInt ∧ x2.toInt ≤ 1)) (kk : (∀ (r : Int32) (h' : xe_H), ((-1) ≤ r.toInt ∧ r.toInt ≤ 1) → xk [(0, 9), (115, 1), (83, 0), (29, 0), (31, 0), (33, 0), (35, 0), (37, 0), (39, 0), (41, 0), (43, 0), (45, 0), (47, 0), (49, 0), (51, 0), (125, 0), (29, 2), (31, 2), (33, 2), (35, 2), (37, 2), (39, 2), (41, 2), (43, 2), (45, 2), (47, 2), (49, 2), (51, 2), (127, 0), (1, 5), (115, 23)] h h' → Q (some (.int r)) h')) : xw J ov (d + 1) 33 (0, [(0, .ref 115), (1, .int x1), (2, .int x2)], [], h) Q := by
  have K : xk [(0, 9), (115, 1), (83, 0), (29, 0), (31, 0), (33, 0), (35, 0), (37, 0), (39, 0), (41, 0), (43, 0), (45, 0), (47, 0), (49, 0), (51, 0), (125, 0), (29, 2), (31, 2), (33, 2), (35, 2), (37, 2), (39, 2), (41, 2), (43, 2), (45, 2), (47, 2), (49, 2), (51, 2), (127, 0), (1, 5), (115, 23)] h h := xk_re T
  have rx1 := xc_rng x1
  refine xi_aload_n (pc' := 1) (x := 115) kc_33_0 rfl rfl ?_
  refine xi_iconst (pc' := 2) (v := 0) kc_33_1 rfl rfl ?_
  refine xp_115 K.1 (fun u1 u2 u3 u4 u5 u6 u7 u8 u9 u10 u11 u12 u13 bu1 bu2 bu3 bu4 bu5 bu6 bu7 bu8 bu9 bu10 bu11 bu12 bu13 A14 => ?_)
  refine xi_putfield (pc' := 5) (fs' := [.int 0, .int u2, .ref 116, .ref 117, .ref 118, .ref 119, .ref 120, .ref 121, .ref 122, .ref 123, .ref 124, .ref 125, .ref 126, .ref 127, .ref 128, .ref 129, .int u3, .ref 130, .int u4, .ref 131, .ref 132, .ref 133, .ref 134, .int u5, .ref 135, .ref 136, .ref 137, .ref 138, .ref 139, .ref 140, .ref 141, .ref 142, .int u6, .int u7, .int u8, .ref 143, .ref 144, .ref 145, .ref 146, .ref 147, .ref 148, .int u9, .ref 149, .ref 150, .ref 151, .int u10, .ref 152, .ref 153, .ref 154, .ref 155, .ref 156, .ref 157, .ref 158, .ref 159, .int u11, .ref 160, .int u12, .ref 161, .ref 162, .ref 163, .ref 164, .int u13, .ref 165, .ref 166]) kc_33_2 rfl rfl rfl A14 rfl rfl rfl (Nat.le_of_ble_eq_true rfl) rfl (fun hh16 eh15 => ?_)
  have K17 := xk_pf (k := 0) (v := 0) K (xk_wf rfl) xD_115 A14 rfl (by first | omega | decide) (by first | omega | decide) eh15 rfl
  refine xi_iload_n (pc' := 6) (x := x1) kc_33_5 rfl rfl ?_
  refine xi_iconst (pc' := 7) (v := 0) kc_33_6 rfl rfl ?_
  refine xi_aload_n (pc' := 8) (x := 115) kc_33_7 rfl rfl ?_
  refine xi_getfield (pc' := 11) (v := .int u5) kc_33_8 rfl rfl rfl eh15.1 rfl ?_
  refine xi_iconst (pc' := 12) (v := 1) kc_33_11 rfl rfl ?_
  refine xcps2 (α := Int32) (u5 - 1) (fun v18 ev18 => ?_)
  have zv18 : v18.toInt = (u5.toInt + (-1)) := by rw [← ev18]; exact (xz_sub (X := u5.toInt) (Y := 1) rfl (by decide) (by omega) (by omega)).trans (by omega)
  refine xi_isub (pc' := 13) (v := v18) kc_33_12 rfl ev18 ?_
  refine xi_static (mj := 11) (as := [.int x1, .int 0, .int v18]) (st1 := []) (lv0 := [(0, .int x1), (1, .int 0), (2, .int v18)]) kc_33_13 rfl rfl (Nat.le_of_ble_eq_true rfl) rfl rfl (Nat.le_of_ble_eq_true rfl) (hJ _ _ _ _ (by decide)) (xm_le ml_11 rfl) rfl ?_
  refine xi_iload_n (pc' := 1) (x := x1) kc_11_0 rfl rfl ?_
  refine xi_iload_n (pc' := 2) (x := 0) kc_11_1 rfl rfl ?_
  by_cases c19 : x1.toInt < 0
  · refine xi_cmt (pc' := 14) kc_11_2 rfl (xc_lt_t (X := x1.toInt) (Y := 0) rfl (by decide) (by omega)) ?_
    refine xi_iconst (pc' := 15) (v := 0) kc_11_14 rfl rfl ?_
    refine xi_ireturn kc_11_15 mr_11 rfl ?_
    show xw J ov (d + 1) 33 (16, [(0, .ref 115), (1, .int x1), (2, .int x2)], [.int 0], hh16) _
    refine xi_iff (pc' := 19) kc_33_16 rfl rfl ?_
    refine xi_aload_n (pc' := 20) (x := 115) kc_33_19 rfl rfl ?_
    refine xi_iconst (pc' := 21) (v := (-1)) kc_33_20 rfl rfl ?_
    refine xi_virtual (mj := 12) (as := [.int (-1)]) (st1 := []) (lv0 := [(0, .ref 115), (1, .int (-1))]) kc_33_21 rfl rfl rfl rfl rfl eh15.1 (Nat.le_of_ble_eq_true rfl) (hJ _ _ _ _ (by decide)) (xm_le ml_12 rfl) rfl ?_
    refine xi_aload_n (pc' := 1) (x := 115) kc_12_0 rfl rfl ?_
    refine xi_getfield (pc' := 4) (v := .ref 140) kc_12_1 rfl rfl rfl eh15.1 rfl ?_
    refine xi_iload_n (pc' := 5) (x := (-1)) kc_12_4 rfl rfl ?_
    refine xi_ineg (pc' := 6) (v := 1) kc_12_5 rfl rfl ?_
    refine xi_dup2 (pc' := 7) kc_12_6 rfl ⟨rfl, rfl⟩ ?_
    refine xcps4 (xk_arr K17.1 xD_140) (fun y20 A20 hy20 ry20 => ?_)
    refine xcps4 (xj_get hy20 ry20 (i := 1) (by decide) (by decide)) (fun v21 ev21 bv21 dv21 => ?_)
    refine xi_iaload (pc' := 8) (v := v21) kc_12_7 rfl A20 (by decide) rfl (xi_in (by decide) (by rw [hy20]; decide)) ev21 ?_
    refine xi_iconst (pc' := 9) (v := 1) kc_12_8 rfl rfl ?_
    refine xcps2 (α := Int32) ((v21 : Int32) + 1) (fun v22 ev22 => ?_)
    have rv22 := xc_rng v22
    refine xi_iadd (pc' := 10) (v := v22) kc_12_9 rfl ev22 ?_
    refine xcps4 (xj_set (v := v22) hy20 ry20 1 (by first | omega | decide) (by first | omega | decide)) (fun y23 s23 hy23 ry23 => ?_)
    refine xi_iastore (pc' := 11) (x' := y23) kc_12_10 rfl A20 rfl (xi_in (by decide) (by rw [hy20]; decide)) s23 (fun hh23 eh23 => ?_)
    have K24 := xk_pa K17 (xk_wa rfl) xD_140 hy23 ry23 eh23
    refine xi_iload_n (pc' := 12) (x := (-1)) kc_12_11 rfl rfl ?_
    refine xi_ireturn kc_12_12 mr_12 rfl ?_
    show xw J ov (d + 1) 33 (24, [(0, .ref 115), (1, .int x1), (2, .int x2)], [.int (-1)], hh23) _
    refine xi_ireturn kc_33_24 mr_33 rfl ?_
    have zcm1 : ((-1) : Int32).toInt = (-1) := by decide
    exact kk (-1) hh23 (by omega) K24
  · refine xi_cmf (pc' := 5) kc_11_2 rfl (xc_lt_f (X := x1.toInt) (Y := 0) rfl (by decide) (by omega)) ?_
    refine xi_iload_n (pc' := 6) (x := x1) kc_11_5 rfl rfl ?_
    refine xi_iload_n (pc' := 7) (x := v18) kc_11_6 rfl rfl ?_
    by_cases c25 : (u5.toInt + (-1)) < x1.toInt
    · refine xi_cmt (pc' := 14) kc_11_7 rfl (xc_gt_t (X := x1.toInt) (Y := (u5.toInt + (-1))) rfl zv18 (by omega)) ?_
      refine xi_iconst (pc' := 15) (v := 0) kc_11_14 rfl rfl ?_
      refine xi_ireturn kc_11_15 mr_11 rfl ?_
      show xw J ov (d + 1) 33 (16, [(0, .ref 115), (1, .int x1), (2, .int x2)], [.int 0], hh16) _
      refine xi_iff (pc' := 19) kc_33_16 rfl rfl ?_
      refine xi_aload_n (pc' := 20) (x := 115) kc_33_19 rfl rfl ?_
      refine xi_iconst (pc' := 21) (v := (-1)) kc_33_20 rfl rfl ?_
      refine xi_virtual (mj := 12) (as := [.int (-1)]) (st1 := []) (lv0 := [(0, .ref 115), (1, .int (-1))]) kc_33_21 rfl rfl rfl rfl rfl eh15.1 (Nat.le_of_ble_eq_true rfl) (hJ _ _ _ _ (by decide)) (xm_le ml_12 rfl) rfl ?_
      refine xi_aload_n (pc' := 1) (x := 115) kc_12_0 rfl rfl ?_
      refine xi_getfield (pc' := 4) (v := .ref 140) kc_12_1 rfl rfl rfl eh15.1 rfl ?_
      refine xi_iload_n (pc' := 5) (x := (-1)) kc_12_4 rfl rfl ?_
      refine xi_ineg (pc' := 6) (v := 1) kc_12_5 rfl rfl ?_
      refine xi_dup2 (pc' := 7) kc_12_6 rfl ⟨rfl, rfl⟩ ?_
      refine xcps4 (xk_arr K17.1 xD_140) (fun y26 A26 hy26 ry26 => ?_)
      refine xcps4 (xj_get hy26 ry26 (i := 1) (by decide) (by decide)) (fun v27 ev27 bv27 dv27 => ?_)
      refine xi_iaload (pc' := 8) (v := v27) kc_12_7 rfl A26 (by decide) rfl (xi_in (by decide) (by rw [hy26]; decide)) ev27 ?_
      refine xi_iconst (pc' := 9) (v := 1) kc_12_8 rfl rfl ?_
      refine xcps2 (α := Int32) ((v27 : Int32) + 1) (fun v28 ev28 => ?_)
      have rv28 := xc_rng v28
      refine xi_iadd (pc' := 10) (v := v28) kc_12_9 rfl ev28 ?_
      refine xcps4 (xj_set (v := v28) hy26 ry26 1 (by first | omega | decide) (by first | omega | decide)) (fun y29 s29 hy29 ry29 => ?_)
      refine xi_iastore (pc' := 11) (x' := y29) kc_12_10 rfl A26 rfl (xi_in (by decide) (by rw [hy26]; decide)) s29 (fun hh29 eh29 => ?_)
      have K30 := xk_pa K17 (xk_wa rfl) xD_140 hy29 ry29 eh29
      refine xi_iload_n (pc' := 12) (x := (-1)) kc_12_11 rfl rfl ?_
      refine xi_ireturn kc_12_12 mr_12 rfl ?_
      show xw J ov (d + 1) 33 (24, [(0, .ref 115), (1, .int x1), (2, .int x2)], [.int (-1)], hh29) _
      refine xi_ireturn kc_33_24 mr_33 rfl ?_
      have zcm1 : ((-1) : Int32).toInt = (-1) := by decide
      exact kk (-1) hh29 (by omega) K30
    · refine xi_cmf (pc' := 10) kc_11_7 rfl (xc_gt_f (X := x1.toInt) (Y := (u5.toInt + (-1))) rfl zv18 (by omega)) ?_
      refine xi_iconst (pc' := 11) (v := 1) kc_11_10 rfl rfl ?_
      refine xi_goto (pc' := 15) kc_11_11 rfl ?_
      refine xi_ireturn kc_11_15 mr_11 rfl ?_
      show xw J ov (d + 1) 33 (16, [(0, .ref 115), (1, .int x1), (2, .int x2)], [.int 1], hh16) _
      refine xi_ift (pc' := 25) kc_33_16 rfl rfl ?_
      refine xi_aload_n (pc' := 26) (x := 115) kc_33_25 rfl rfl ?_
      refine xi_getfield (pc' := 29) (v := .ref 139) kc_33_26 rfl rfl rfl eh15.1 rfl ?_
      refine xi_iload_n (pc' := 30) (x := x1) kc_33_29 rfl rfl ?_
      refine xcps4 (xk_arr K17.1 xD_139) (fun y31 A31 hy31 ry31 => ?_)
      refine xcps4 (xj_get hy31 ry31 (i := x1) (by omega) (by omega)) (fun v32 ev32 bv32 dv32 => ?_)
      refine xi_baload (pc' := 31) (v := v32) kc_33_30 rfl A31 rfl (xi_in (by omega) (by rw [hy31]; omega)) ev32 ?_
      refine xi_istore_n (pc' := 32) (lv' := [(3, .int v32), (0, .ref 115), (1, .int x1), (2, .int x2)]) kc_33_31 rfl rfl (xm_lt ml_33 rfl) ?_
      refine xi_aload_n (pc' := 33) (x := 115) kc_33_32 rfl rfl ?_
      refine xi_getfield (pc' := 36) (v := .ref 139) kc_33_33 rfl rfl rfl eh15.1 rfl ?_
      refine xi_iload_n (pc' := 37) (x := x1) kc_33_36 rfl rfl ?_
      refine xi_iload_n (pc' := 38) (x := x2) kc_33_37 rfl rfl ?_
      by_cases c33 : x2.toInt = 0
      · have qx2 : x2 = 0 := xc_of (Eq.trans (by omega) (show (0 : Int) = (0 : Int32).toInt by decide))
        subst qx2
        refine xcps4 (xj_set (v := 0) hy31 ry31 x1 (by first | omega | decide) (by first | omega | decide)) (fun y34 s34 hy34 ry34 => ?_)
        refine xi_bastore (pc' := 39) (x' := y34) kc_33_38 rfl A31 rfl (xi_in (by omega) (by rw [hy31]; omega)) s34 (fun hh34 eh34 => ?_)
        have K35 := xk_pa K17 (xk_wa rfl) xD_139 hy34 ry34 eh34
        refine xi_iload_n (pc' := 40) (x := v32) kc_33_39 rfl rfl ?_
        refine xi_iload_n (pc' := 41) (x := 0) kc_33_40 rfl rfl ?_
        by_cases c36 : v32.toInt = 0
        · refine xi_cmf (pc' := 44) kc_33_41 rfl (xc_ne_f (X := v32.toInt) (Y := 0) rfl (by decide) (by omega)) ?_
          refine xi_iconst (pc' := 45) (v := 0) kc_33_44 rfl rfl ?_
          refine xi_goto (pc' := 49) kc_33_45 rfl ?_
          refine xi_ireturn kc_33_49 mr_33 rfl ?_
          have zc0 : (0 : Int32).toInt = 0 := by decide
          exact kk 0 hh34 (by omega) K35
        · refine xi_cmt (pc' := 48) kc_33_41 rfl (xc_ne_t (X := v32.toInt) (Y := 0) rfl (by decide) (by omega)) ?_
          refine xi_iconst (pc' := 49) (v := 1) kc_33_48 rfl rfl ?_
          refine xi_ireturn kc_33_49 mr_33 rfl ?_
          have zc1 : (1 : Int32).toInt = 1 := by decide
          exact kk 1 hh34 (by omega) K35
      have qx2 : x2 = 1 := xc_of (Eq.trans (by omega) (show (1 : Int) = (1 : Int32).toInt by decide))
      subst qx2
      refine xcps4 (xj_set (v := 1) hy31 ry31 x1 (by first | omega | decide) (by first | omega | decide)) (fun y37 s37 hy37 ry37 => ?_)
      refine xi_bastore (pc' := 39) (x' := y37) kc_33_38 rfl A31 rfl (xi_in (by omega) (by rw [hy31]; omega)) s37 (fun hh37 eh37 => ?_)
      have K38 := xk_pa K17 (xk_wa rfl) xD_139 hy37 ry37 eh37
      refine xi_iload_n (pc' := 40) (x := v32) kc_33_39 rfl rfl ?_
      refine xi_iload_n (pc' := 41) (x := 1) kc_33_40 rfl rfl ?_
      by_cases c39 : v32.toInt = 1
      · refine xi_cmf (pc' := 44) kc_33_41 rfl (xc_ne_f (X := v32.toInt) (Y := 1) rfl (by decide) (by omega)) ?_
        refine xi_iconst (pc' := 45) (v := 0) kc_33_44 rfl rfl ?_
        refine xi_goto (pc' := 49) kc_33_45 rfl ?_
        refine xi_ireturn kc_33_49 mr_33 rfl ?_
        have zc0 : (0 : Int32).toInt = 0 := by decide
        exact kk 0 hh37 (by omega) K38
      · refine xi_cmt (pc' := 48) kc_33_41 rfl (xc_ne_t (X := v32.toInt) (Y := 1) rfl (by decide) (by omega)) ?_
        refine xi_iconst (pc' := 49) (v := 1) kc_33_48 rfl rfl ?_
        refine xi_ireturn kc_33_49 mr_33 rfl ?_
        have zc1 : (1 : Int32).toInt = 1 := by decide
        exact kk 1 hh37 (by omega) K38
set_option maxHeartbeats 4000000 in
theorem mt_38_0 {J : xe_J} {ov : List (List Int32)} (hJ : ∀ d mj as h, mj ≠ xe_loff → J d mj as h = none) (hov1 : ov[1]? = some [10, 0, 0, 0, 0, 0]) (hov2 : ov[2]? = some [99, 30, 50, 50, 1, 99999]) {d : Nat} {Q : Option Value → xe_H → Prop} {h : xe_H} {x1 : Int32} {x2 : Int32} {x3 : Int32} {x4 : Int32} (T : xt h) (b1 : (0 ≤ x1.toInt ∧ x1.toInt ≤ 9)) (b2 : (0 ≤ x2.toInt ∧ x2.toInt ≤ 63)) (b3 : (0 ≤ x3.toInt ∧ x3.toInt ≤ 1)) (b4 : (0 ≤ x4.toInt ∧ x4.toInt ≤ 599)) (kk : (∀ (r : Int32) (h' : xe_H), (0 ≤ r.toInt ∧ r.toInt ≤ 1) → xk [(0, 9), (115, 1), (83, 0), (29, 0), (31, 0), (33, 0), (35, 0), (37, 0), (39, 0), (41, 0), (43, 0), (45, 0), (47, 0), (49, 0), (51, 0), (125, 0), (29, 2), (31, 2), (33, 2), (35, 2), (37, 2), (39, 2), (41, 2), (43, 2), (45, 2), (47, 2), (49, 2), (51, 2), (127, 0), (1, 5), (115, 23)] h h' → Q (some (.int r)) h')) : xw J ov (d + 1) 38 (0, [(0, .ref 115), (1, .int x1), (2, .int x2), (3, .int x3), (4, .int x4)], [], h) Q := by
  have K : xk [(0, 9), (115, 1), (83, 0), (29, 0), (31, 0), (33, 0), (35, 0), (37, 0), (39, 0), (41, 0), (43, 0), (45, 0), (47, 0), (49, 0), (51, 0), (125, 0), (29, 2), (31, 2), (33, 2), (35, 2), (37, 2), (39, 2), (41, 2), (43, 2), (45, 2), (47, 2), (49, 2), (51, 2), (127, 0), (1, 5), (115, 23)] h h := xk_re T
  refine xi_iload_n (pc' := 1) (x := x3) kc_38_0 rfl rfl ?_
  by_cases c1 : x3.toInt = 0
  · refine xi_ift (pc' := 16) kc_38_1 rfl (xc_eq_t (X := x3.toInt) (Y := 0) rfl (by decide) (by omega)) ?_
    refine xi_iload_n (pc' := 17) (x := x2) kc_38_16 rfl rfl ?_
    refine xi_iload_n (pc' := 18) (x := x1) kc_38_17 rfl rfl ?_
    refine xcps2 (α := Int32) ((x2 : Int32) >>> (x1 &&& 31)) (fun v2 ev2 => ?_)
    have rv2 := xc_rng v2
    refine xi_ishr (pc' := 19) (v := v2) kc_38_18 rfl ev2 ?_
    refine xi_iconst (pc' := 20) (v := 1) kc_38_19 rfl rfl ?_
    refine xcps2 (α := Int32) ((v2 : Int32) &&& 1) (fun v3 ev3 => ?_)
    have rv3 := xc_rng v3
    refine xi_iand (pc' := 21) (v := v3) kc_38_20 rfl ev3 ?_
    refine xi_iconst (pc' := 22) (v := 1) kc_38_21 rfl rfl ?_
    by_cases c4 : v3.toInt = 1
    · refine xi_cmf (pc' := 25) kc_38_22 rfl (xc_ne_f (X := v3.toInt) (Y := 1) rfl (by decide) (by omega)) ?_
      refine xi_aload_n (pc' := 26) (x := 115) kc_38_25 rfl rfl ?_
      refine xp_115 K.1 (fun u5 u6 u7 u8 u9 u10 u11 u12 u13 u14 u15 u16 u17 bu5 bu6 bu7 bu8 bu9 bu10 bu11 bu12 bu13 bu14 bu15 bu16 bu17 A18 => ?_)
      refine xi_getfield (pc' := 29) (v := .ref 138) kc_38_26 rfl rfl rfl A18 rfl ?_
      refine xi_iload_n (pc' := 30) (x := x1) kc_38_29 rfl rfl ?_
      refine xcps4 (xk_arr K.1 xD_138) (fun y19 A19 hy19 ry19 => ?_)
      refine xcps4 (xj_get hy19 ry19 (i := x1) (by omega) (by omega)) (fun v20 ev20 bv20 dv20 => ?_)
      refine xi_iaload (pc' := 31) (v := v20) kc_38_30 rfl A19 (by decide) rfl (xi_in (by omega) (by rw [hy19]; omega)) ev20 ?_
      refine xi_iload (pc' := 33) (x := x4) kc_38_31 rfl rfl ?_
      by_cases c21 : x4.toInt < v20.toInt
      · refine xi_cmt (pc' := 40) kc_38_33 rfl (xc_gt_t (X := v20.toInt) (Y := x4.toInt) rfl rfl (by omega)) ?_
        refine xi_iconst (pc' := 41) (v := 0) kc_38_40 rfl rfl ?_
        refine xi_ireturn kc_38_41 mr_38 rfl ?_
        have zc0 : (0 : Int32).toInt = 0 := by decide
        exact kk 0 h (by omega) K
      · refine xi_cmf (pc' := 36) kc_38_33 rfl (xc_gt_f (X := v20.toInt) (Y := x4.toInt) rfl rfl (by omega)) ?_
        refine xi_iconst (pc' := 37) (v := 1) kc_38_36 rfl rfl ?_
        refine xi_goto (pc' := 41) kc_38_37 rfl ?_
        refine xi_ireturn kc_38_41 mr_38 rfl ?_
        have zc1 : (1 : Int32).toInt = 1 := by decide
        exact kk 1 h (by omega) K
    · refine xi_cmt (pc' := 40) kc_38_22 rfl (xc_ne_t (X := v3.toInt) (Y := 1) rfl (by decide) (by omega)) ?_
      refine xi_iconst (pc' := 41) (v := 0) kc_38_40 rfl rfl ?_
      refine xi_ireturn kc_38_41 mr_38 rfl ?_
      have zc0 : (0 : Int32).toInt = 0 := by decide
      exact kk 0 h (by omega) K
  · refine xi_iff (pc' := 4) kc_38_1 rfl (xc_eq_f (X := x3.toInt) (Y := 0) rfl (by decide) (by omega)) ?_
    refine xi_aload_n (pc' := 5) (x := 115) kc_38_4 rfl rfl ?_
    refine xp_115 K.1 (fun u22 u23 u24 u25 u26 u27 u28 u29 u30 u31 u32 u33 u34 bu22 bu23 bu24 bu25 bu26 bu27 bu28 bu29 bu30 bu31 bu32 bu33 bu34 A35 => ?_)
    refine xi_getfield (pc' := 8) (v := .ref 139) kc_38_5 rfl rfl rfl A35 rfl ?_
    refine xi_iload_n (pc' := 9) (x := x1) kc_38_8 rfl rfl ?_
    refine xcps4 (xk_arr K.1 xD_139) (fun y36 A36 hy36 ry36 => ?_)
    refine xcps4 (xj_get hy36 ry36 (i := x1) (by omega) (by omega)) (fun v37 ev37 bv37 dv37 => ?_)
    refine xi_baload (pc' := 10) (v := v37) kc_38_9 rfl A36 rfl (xi_in (by omega) (by rw [hy36]; omega)) ev37 ?_
    by_cases c38 : v37.toInt = 0
    · refine xi_ift (pc' := 40) kc_38_10 rfl (xc_eq_t (X := v37.toInt) (Y := 0) rfl (by decide) (by omega)) ?_
      refine xi_iconst (pc' := 41) (v := 0) kc_38_40 rfl rfl ?_
      refine xi_ireturn kc_38_41 mr_38 rfl ?_
      have zc0 : (0 : Int32).toInt = 0 := by decide
      exact kk 0 h (by omega) K
    · refine xi_iff (pc' := 13) kc_38_10 rfl (xc_eq_f (X := v37.toInt) (Y := 0) rfl (by decide) (by omega)) ?_
      refine xi_goto (pc' := 25) kc_38_13 rfl ?_
      refine xi_aload_n (pc' := 26) (x := 115) kc_38_25 rfl rfl ?_
      refine xi_getfield (pc' := 29) (v := .ref 138) kc_38_26 rfl rfl rfl A35 rfl ?_
      refine xi_iload_n (pc' := 30) (x := x1) kc_38_29 rfl rfl ?_
      refine xcps4 (xk_arr K.1 xD_138) (fun y39 A39 hy39 ry39 => ?_)
      refine xcps4 (xj_get hy39 ry39 (i := x1) (by omega) (by omega)) (fun v40 ev40 bv40 dv40 => ?_)
      refine xi_iaload (pc' := 31) (v := v40) kc_38_30 rfl A39 (by decide) rfl (xi_in (by omega) (by rw [hy39]; omega)) ev40 ?_
      refine xi_iload (pc' := 33) (x := x4) kc_38_31 rfl rfl ?_
      by_cases c41 : x4.toInt < v40.toInt
      · refine xi_cmt (pc' := 40) kc_38_33 rfl (xc_gt_t (X := v40.toInt) (Y := x4.toInt) rfl rfl (by omega)) ?_
        refine xi_iconst (pc' := 41) (v := 0) kc_38_40 rfl rfl ?_
        refine xi_ireturn kc_38_41 mr_38 rfl ?_
        have zc0 : (0 : Int32).toInt = 0 := by decide
        exact kk 0 h (by omega) K
      · refine xi_cmf (pc' := 36) kc_38_33 rfl (xc_gt_f (X := v40.toInt) (Y := x4.toInt) rfl rfl (by omega)) ?_
        refine xi_iconst (pc' := 37) (v := 1) kc_38_36 rfl rfl ?_
        refine xi_goto (pc' := 41) kc_38_37 rfl ?_
        refine xi_ireturn kc_38_41 mr_38 rfl ?_
        have zc1 : (1 : Int32).toInt = 1 := by decide
        exact kk 1 h (by omega) K
set_option maxHeartbeats 4000000 in
theorem mt_39_0 {J : xe_J} {ov : List (List Int32)} (hJ : ∀ d mj as h, mj ≠ xe_loff → J d mj as h = none) (hov1 : ov[1]? = some [10, 0, 0, 0, 0, 0]) (hov2 : ov[2]? = some [99, 30, 50, 50, 1, 99999]) {d : Nat} {Q : Option Value → xe_H → Prop} {h : xe_H} {x0 : Int32} (T : xt h) (kk : (∀ (r : Int32) (h' : xe_H), (0 ≤ r.toInt ∧ r.toInt ≤ 99999) → xk [(0, 9), (115, 1), (83, 0), (29, 0), (31, 0), (33, 0), (35, 0), (37, 0), (39, 0), (41, 0), (43, 0), (45, 0), (47, 0), (49, 0), (51, 0), (125, 0), (29, 2), (31, 2), (33, 2), (35, 2), (37, 2), (39, 2), (41, 2), (43, 2), (45, 2), (47, 2), (49, 2), (51, 2), (127, 0), (1, 5), (115, 23)] h h' → Q (some (.int r)) h')) : xw J ov (d + 1) 39 (0, [(0, .int x0)], [], h) Q := by
  have K : xk [(0, 9), (115, 1), (83, 0), (29, 0), (31, 0), (33, 0), (35, 0), (37, 0), (39, 0), (41, 0), (43, 0), (45, 0), (47, 0), (49, 0), (51, 0), (125, 0), (29, 2), (31, 2), (33, 2), (35, 2), (37, 2), (39, 2), (41, 2), (43, 2), (45, 2), (47, 2), (49, 2), (51, 2), (127, 0), (1, 5), (115, 23)] h h := xk_re T
  have rx0 := xc_rng x0
  refine xi_iload_n (pc' := 1) (x := x0) kc_39_0 rfl rfl ?_
  by_cases c1 : 0 ≤ x0.toInt
  · refine xi_ift (pc' := 8) kc_39_1 rfl (xc_ge_t (X := x0.toInt) (Y := 0) rfl (by decide) (by omega)) ?_
    refine xi_iload_n (pc' := 9) (x := x0) kc_39_8 rfl rfl ?_
    refine xi_ldc (pc' := 11) (v := 99999) kc_39_9 rfl rfl ?_
    by_cases c2 : x0.toInt ≤ 99999
    · refine xi_cmt (pc' := 19) kc_39_11 rfl (xc_le_t (X := x0.toInt) (Y := 99999) rfl (by decide) (by omega)) ?_
      refine xi_iload_n (pc' := 20) (x := x0) kc_39_19 rfl rfl ?_
      refine xi_ireturn kc_39_20 mr_39 rfl ?_
      exact kk x0 h (by omega) K
    · refine xi_cmf (pc' := 14) kc_39_11 rfl (xc_le_f (X := x0.toInt) (Y := 99999) rfl (by decide) (by omega)) ?_
      refine xi_ldc (pc' := 16) (v := 99999) kc_39_14 rfl rfl ?_
      refine xi_goto (pc' := 20) kc_39_16 rfl ?_
      refine xi_ireturn kc_39_20 mr_39 rfl ?_
      have zc99999 : (99999 : Int32).toInt = 99999 := by decide
      exact kk 99999 h (by omega) K
  · refine xi_iff (pc' := 4) kc_39_1 rfl (xc_ge_f (X := x0.toInt) (Y := 0) rfl (by decide) (by omega)) ?_
    refine xi_iconst (pc' := 5) (v := 0) kc_39_4 rfl rfl ?_
    refine xi_goto (pc' := 20) kc_39_5 rfl ?_
    refine xi_ireturn kc_39_20 mr_39 rfl ?_
    have zc0 : (0 : Int32).toInt = 0 := by decide
    exact kk 0 h (by omega) K
set_option maxHeartbeats 4000000 in
theorem lp_40_0 {J : xe_J} {ov : List (List Int32)} (hJ : ∀ d mj as h, mj ≠ xe_loff → J d mj as h = none) (hov1 : ov[1]? = some [10, 0, 0, 0, 0, 0]) (hov2 : ov[2]? = some [99, 30, 50, 50, 1, 99999]) {d : Nat} {Q : Option Value → xe_H → Prop} {hb : xe_H} (kk : (∀ h' : xe_H, xk [(0, 9), (115, 1), (83, 0), (29, 0), (31, 0), (33, 0), (35, 0), (37, 0), (39, 0), (41, 0), (43, 0), (45, 0), (47, 0), (49, 0), (51, 0), (125, 0), (29, 2), (31, 2), (33, 2), (35, 2), (37, 2), (39, 2), (41, 2), (43, 2), (45, 2), (47, 2), (49, 2), (51, 2), (127, 0), (1, 5), (115, 23)] hb h' → Q none h')) : ∀ m : Nat, (∀ (x1 : Int32) (x2 : Int32) (x3 : Int32) (x4 : Int32) (x5 : Int32) (h : xe_H), (0 ≤ x1.toInt ∧ x1.toInt ≤ 5) → (1 ≤ x2.toInt ∧ x2.toInt ≤ 2147483647) → ((-1) ≤ x4.toInt ∧ x4.toInt ≤ 11) → ((-1) ≤ x5.toInt ∧ x5.toInt ≤ 11) → xk [(0, 9), (115, 1), (83, 0), (29, 0), (31, 0), (33, 0), (35, 0), (37, 0), (39, 0), (41, 0), (43, 0), (45, 0), (47, 0), (49, 0), (51, 0), (125, 0), (29, 2), (31, 2), (33, 2), (35, 2), (37, 2), (39, 2), (41, 2), (43, 2), (45, 2), (47, 2), (49, 2), (51, 2), (127, 0), (1, 5), (115, 23)] hb h → (1) * x5.toInt + 14 < (m : Int) → xw J ov (d + 2) 40 (9, [(0, .ref 115), (1, .int x1), (2, .int x2), (3, .int x3), (4, .int x4), (5, .int x5)], [], h) Q) ∧ (∀ (x1 : Int32) (x2 : Int32) (x3 : Int32) (x4 : Int32) (x5 : Int32) (x6 : Int32) (h : xe_H), (0 ≤ x1.toInt ∧ x1.toInt ≤ 5) → (1 ≤ x2.toInt ∧ x2.toInt ≤ 2147483647) → ((-1) ≤ x4.toInt ∧ x4.toInt ≤ 11) → (0 ≤ x6.toInt ∧ x6.toInt ≤ 12) → xk [(0, 9), (115, 1), (83, 0), (29, 0), (31, 0), (33, 0), (35, 0), (37, 0), (39, 0), (41, 0), (43, 0), (45, 0), (47, 0), (49, 0), (51, 0), (125, 0), (29, 2), (31, 2), (33, 2), (35, 2), (37, 2), (39, 2), (41, 2), (43, 2), (45, 2), (47, 2), (49, 2), (51, 2), (127, 0), (1, 5), (115, 23)] hb h → (-1) * x6.toInt + 12 < (m : Int) → xw J ov (d + 2) 40 (79, [(0, .ref 115), (1, .int x1), (2, .int x2), (3, .int x3), (4, .int x4), (5, .int x5), (6, .int x6)], [], h) Q) := by
  intro m
  induction m with
  | zero =>
    refine ⟨?_, ?_⟩
    · intro x1 x2 x3 x4 x5 h b1 b2 b4 b5 K hm; have rx3 := xc_rng x3; exfalso; omega
    · intro x1 x2 x3 x4 x5 x6 h b1 b2 b4 b6 K hm; have rx3 := xc_rng x3; have rx5 := xc_rng x5; exfalso; omega
  | succ m ih =>
    obtain ⟨i0, i1⟩ := ih
    refine ⟨?_, ?_⟩
    · intro x1 x2 x3 x4 x5 h b1 b2 b4 b5 K hm
      have rx3 := xc_rng x3
      refine xi_iload (pc' := 11) (x := x5) kc_40_9 rfl rfl ?_
      by_cases c1 : x5.toInt < 0
      · refine xi_ift (pc' := 73) kc_40_11 rfl (xc_lt_t (X := x5.toInt) (Y := 0) rfl (by decide) (by omega)) ?_
        refine xi_iload_n (pc' := 74) (x := x2) kc_40_73 rfl rfl ?_
        refine xi_istore (pc' := 76) (lv' := [(5, .int x2), (0, .ref 115), (1, .int x1), (2, .int x2), (3, .int x3), (4, .int x4)]) kc_40_74 rfl rfl (xm_lt ml_40 rfl) ?_
        refine xi_iconst (pc' := 77) (v := 0) kc_40_76 rfl rfl ?_
        refine xi_istore (pc' := 79) (lv' := [(6, .int 0), (5, .int x2), (0, .ref 115), (1, .int x1), (2, .int x2), (3, .int x3), (4, .int x4)]) kc_40_77 rfl rfl (xm_lt ml_40 rfl) ?_
        have zc0 : (0 : Int32).toInt = 0 := by decide
        refine xw_lv (b := [(0, .ref 115), (1, .int x1), (2, .int x2), (3, .int x3), (4, .int x4), (5, .int x2), (6, .int 0)]) (lvS_cons (lvS_cons (lvS_cons (lvS_cons (lvS_cons (lvS_cons (lvS_cons (lvS_nil (show ([6, 5, 0, 1, 2, 3, 4] : List Nat).Nodup by decide)) rfl) rfl) rfl) rfl) rfl) rfl) rfl) ?_
        exact i1 x1 x2 x3 x4 x2 0 h (by omega) (by omega) (by omega) (by omega) K (by omega)
      · refine xi_iff (pc' := 14) kc_40_11 rfl (xc_lt_f (X := x5.toInt) (Y := 0) rfl (by decide) (by omega)) ?_
        refine xi_aload_n (pc' := 15) (x := 115) kc_40_14 rfl rfl ?_
        refine xp_115 K.1 (fun u2 u3 u4 u5 u6 u7 u8 u9 u10 u11 u12 u13 u14 bu2 bu3 bu4 bu5 bu6 bu7 bu8 bu9 bu10 bu11 bu12 bu13 bu14 A15 => ?_)
        refine xi_getfield (pc' := 18) (v := .ref 125) kc_40_15 rfl rfl rfl A15 rfl ?_
        refine xi_iload (pc' := 20) (x := x5) kc_40_18 rfl rfl ?_
        refine xcps4 (xk_arr K.1 xD_125) (fun y16 A16 hy16 ry16 => ?_)
        refine xcps4 (xj_get hy16 ry16 (i := x5) (by omega) (by omega)) (fun v17 ev17 bv17 dv17 => ?_)
        refine xi_iaload (pc' := 21) (v := v17) kc_40_20 rfl A16 (by decide) rfl (xi_in (by omega) (by rw [hy16]; omega)) ev17 ?_
        refine xi_iload_n (pc' := 22) (x := x1) kc_40_21 rfl rfl ?_
        by_cases c18 : v17.toInt = x1.toInt
        · refine xi_cmf (pc' := 25) kc_40_22 rfl (xc_ne_f (X := v17.toInt) (Y := x1.toInt) rfl rfl (by omega)) ?_
          refine xi_aload_n (pc' := 26) (x := 115) kc_40_25 rfl rfl ?_
          refine xi_getfield (pc' := 29) (v := .ref 117) kc_40_26 rfl rfl rfl A15 rfl ?_
          refine xi_iload_n (pc' := 30) (x := x1) kc_40_29 rfl rfl ?_
          refine xcps4 (xk_arr K.1 xD_117) (fun y19 A19 hy19 ry19 => ?_)
          refine xcps4 (xj_get hy19 ry19 (i := x1) (by omega) (by omega)) (fun v20 ev20 bv20 dv20 => ?_)
          refine xi_iaload (pc' := 31) (v := v20) kc_40_30 rfl A19 (by decide) rfl (xi_in (by omega) (by rw [hy19]; omega)) ev20 ?_
          refine xi_aload_n (pc' := 32) (x := 115) kc_40_31 rfl rfl ?_
          refine xi_getfield (pc' := 35) (v := .int u7) kc_40_32 rfl rfl rfl A15 rfl ?_
          refine xcps2 (α := Int32) ((v20 : Int32) - u7) (fun v21 ev21 => ?_)
          have rv21 := xc_rng v21
          refine xi_isub (pc' := 36) (v := v21) kc_40_35 rfl ev21 ?_
          refine xi_aload_n (pc' := 37) (x := 115) kc_40_36 rfl rfl ?_
          refine xi_getfield (pc' := 40) (v := .ref 126) kc_40_37 rfl rfl rfl A15 rfl ?_
          refine xi_iload (pc' := 42) (x := x5) kc_40_40 rfl rfl ?_
          refine xcps4 (xk_arr K.1 xD_126) (fun y22 A22 hy22 ry22 => ?_)
          refine xcps4 (xj_get hy22 ry22 (i := x5) (by omega) (by omega)) (fun v23 ev23 bv23 dv23 => ?_)
          refine xi_iaload (pc' := 43) (v := v23) kc_40_42 rfl A22 (by decide) rfl (xi_in (by omega) (by rw [hy22]; omega)) ev23 ?_
          refine xcps2 (α := Int32) ((v21 : Int32) * v23) (fun v24 ev24 => ?_)
          have rv24 := xc_rng v24
          refine xi_imul (pc' := 44) (v := v24) kc_40_43 rfl ev24 ?_
          refine xi_bipush (pc' := 46) (v := 100) kc_40_44 rfl rfl ?_
          refine xcps2 (α := Int32) (v24 / 100) (fun v25 ev25 => ?_)
          have dv25 : 100 * v25.toInt ≤ v24.toInt + 99 ∧ v24.toInt ≤ 100 * v25.toInt + 99 := by rw [← ev25]; exact xz_div (X := v24.toInt) (Y := 100) rfl (by decide) (by decide)
          have bv25 : -21474837 ≤ v25.toInt ∧ v25.toInt ≤ 21474837 := by omega
          refine xi_idiv (pc' := 47) (v := v25) kc_40_46 rfl ev25 (by decide) ?_
          refine xi_istore (pc' := 49) (lv' := [(6, .int v25), (0, .ref 115), (1, .int x1), (2, .int x2), (3, .int x3), (4, .int x4), (5, .int x5)]) kc_40_47 rfl rfl (xm_lt ml_40 rfl) ?_
          refine xi_iload_n (pc' := 50) (x := x3) kc_40_49 rfl rfl ?_
          refine xi_iload (pc' := 52) (x := v25) kc_40_50 rfl rfl ?_
          by_cases c26 : 0 ≤ v25.toInt
          · refine xi_ift (pc' := 59) kc_40_52 rfl (xc_ge_t (X := v25.toInt) (Y := 0) rfl (by decide) (by omega)) ?_
            refine xi_iload (pc' := 61) (x := v25) kc_40_59 rfl rfl ?_
            refine xcps2 (α := Int32) ((x3 : Int32) + v25) (fun v27 ev27 => ?_)
            have rv27 := xc_rng v27
            refine xi_iadd (pc' := 62) (v := v27) kc_40_61 rfl ev27 ?_
            refine xi_istore_n (pc' := 63) (lv' := [(3, .int v27), (6, .int v25), (0, .ref 115), (1, .int x1), (2, .int x2), (4, .int x4), (5, .int x5)]) kc_40_62 rfl rfl (xm_lt ml_40 rfl) ?_
            refine xi_iload (pc' := 65) (x := x5) kc_40_63 rfl rfl ?_
            refine xi_istore (pc' := 67) (lv' := [(4, .int x5), (3, .int v27), (6, .int v25), (0, .ref 115), (1, .int x1), (2, .int x2), (5, .int x5)]) kc_40_65 rfl rfl (xm_lt ml_40 rfl) ?_
            refine xcps2 (α := Int32) (x5 + (-1)) (fun v28 ev28 => ?_)
            have zv28 : v28.toInt = (x5.toInt + (-1)) := by rw [← ev28]; exact (xz_add (X := x5.toInt) (Y := (-1)) rfl (by decide) (by omega) (by omega)).trans (by omega)
            refine xi_iinc (pc' := 70) (x := x5) (v := v28) (lv' := [(5, .int v28), (4, .int x5), (3, .int v27), (6, .int v25), (0, .ref 115), (1, .int x1), (2, .int x2)]) kc_40_67 rfl rfl ev28 rfl (xm_lt ml_40 rfl) ?_
            refine xi_goto (pc' := 9) kc_40_70 rfl ?_
            refine xw_lv (b := [(0, .ref 115), (1, .int x1), (2, .int x2), (3, .int v27), (4, .int x5), (5, .int v28)]) (lvS_cons (lvS_cons (lvS_cons (lvS_cons (lvS_cons (lvS_cons (lvS_nil (show ([5, 4, 3, 6, 0, 1, 2] : List Nat).Nodup by decide)) rfl) rfl) rfl) rfl) rfl) rfl) ?_
            exact i0 x1 x2 v27 x5 v28 h (by omega) (by omega) (by omega) (by omega) K (by omega)
          · refine xi_iff (pc' := 55) kc_40_52 rfl (xc_ge_f (X := v25.toInt) (Y := 0) rfl (by decide) (by omega)) ?_
            refine xi_iconst (pc' := 56) (v := 0) kc_40_55 rfl rfl ?_
            refine xi_goto (pc' := 61) kc_40_56 rfl ?_
            refine xcps2 (α := Int32) (x3 + 0) (fun v29 ev29 => ?_)
            have zv29 : v29.toInt = x3.toInt := by rw [← ev29]; exact (xz_add (X := x3.toInt) (Y := 0) rfl (by decide) (by omega) (by omega)).trans (by omega)
            refine xi_iadd (pc' := 62) (v := v29) kc_40_61 rfl ev29 ?_
            refine xi_istore_n (pc' := 63) (lv' := [(3, .int v29), (6, .int v25), (0, .ref 115), (1, .int x1), (2, .int x2), (4, .int x4), (5, .int x5)]) kc_40_62 rfl rfl (xm_lt ml_40 rfl) ?_
            refine xi_iload (pc' := 65) (x := x5) kc_40_63 rfl rfl ?_
            refine xi_istore (pc' := 67) (lv' := [(4, .int x5), (3, .int v29), (6, .int v25), (0, .ref 115), (1, .int x1), (2, .int x2), (5, .int x5)]) kc_40_65 rfl rfl (xm_lt ml_40 rfl) ?_
            refine xcps2 (α := Int32) (x5 + (-1)) (fun v30 ev30 => ?_)
            have zv30 : v30.toInt = (x5.toInt + (-1)) := by rw [← ev30]; exact (xz_add (X := x5.toInt) (Y := (-1)) rfl (by decide) (by omega) (by omega)).trans (by omega)
            refine xi_iinc (pc' := 70) (x := x5) (v := v30) (lv' := [(5, .int v30), (4, .int x5), (3, .int v29), (6, .int v25), (0, .ref 115), (1, .int x1), (2, .int x2)]) kc_40_67 rfl rfl ev30 rfl (xm_lt ml_40 rfl) ?_
            refine xi_goto (pc' := 9) kc_40_70 rfl ?_
            refine xw_lv (b := [(0, .ref 115), (1, .int x1), (2, .int x2), (3, .int v29), (4, .int x5), (5, .int v30)]) (lvS_cons (lvS_cons (lvS_cons (lvS_cons (lvS_cons (lvS_cons (lvS_nil (show ([5, 4, 3, 6, 0, 1, 2] : List Nat).Nodup by decide)) rfl) rfl) rfl) rfl) rfl) rfl) ?_
            exact i0 x1 x2 v29 x5 v30 h (by omega) (by omega) (by omega) (by omega) K (by omega)
        · refine xi_cmt (pc' := 67) kc_40_22 rfl (xc_ne_t (X := v17.toInt) (Y := x1.toInt) rfl rfl (by omega)) ?_
          refine xcps2 (α := Int32) (x5 + (-1)) (fun v31 ev31 => ?_)
          have zv31 : v31.toInt = (x5.toInt + (-1)) := by rw [← ev31]; exact (xz_add (X := x5.toInt) (Y := (-1)) rfl (by decide) (by omega) (by omega)).trans (by omega)
          refine xi_iinc (pc' := 70) (x := x5) (v := v31) (lv' := [(5, .int v31), (0, .ref 115), (1, .int x1), (2, .int x2), (3, .int x3), (4, .int x4)]) kc_40_67 rfl rfl ev31 rfl (xm_lt ml_40 rfl) ?_
          refine xi_goto (pc' := 9) kc_40_70 rfl ?_
          refine xw_lv (b := [(0, .ref 115), (1, .int x1), (2, .int x2), (3, .int x3), (4, .int x4), (5, .int v31)]) (lvS_cons (lvS_cons (lvS_cons (lvS_cons (lvS_cons (lvS_cons (lvS_nil (show ([5, 0, 1, 2, 3, 4] : List Nat).Nodup by decide)) rfl) rfl) rfl) rfl) rfl) rfl) ?_
          exact i0 x1 x2 x3 x4 v31 h (by omega) (by omega) (by omega) (by omega) K (by omega)
    · intro x1 x2 x3 x4 x5 x6 h b1 b2 b4 b6 K hm
      have rx3 := xc_rng x3
      have rx5 := xc_rng x5
      refine xi_iload (pc' := 81) (x := x6) kc_40_79 rfl rfl ?_
      refine xi_bipush (pc' := 83) (v := 12) kc_40_81 rfl rfl ?_
      by_cases c1 : 12 ≤ x6.toInt
      · refine xi_cmt (pc' := 179) kc_40_83 rfl (xc_ge_t (X := x6.toInt) (Y := 12) rfl (by decide) (by omega)) ?_
        refine xi_iload (pc' := 181) (x := x4) kc_40_179 rfl rfl ?_
        by_cases c2 : x4.toInt < 0
        · refine xi_ift (pc' := 204) kc_40_181 rfl (xc_lt_t (X := x4.toInt) (Y := 0) rfl (by decide) (by omega)) ?_
          refine xi_return kc_40_204 mr_40 ?_
          exact kk h K
        · refine xi_iff (pc' := 184) kc_40_181 rfl (xc_lt_f (X := x4.toInt) (Y := 0) rfl (by decide) (by omega)) ?_
          refine xi_aload_n (pc' := 185) (x := 115) kc_40_184 rfl rfl ?_
          refine xp_115 K.1 (fun u3 u4 u5 u6 u7 u8 u9 u10 u11 u12 u13 u14 u15 bu3 bu4 bu5 bu6 bu7 bu8 bu9 bu10 bu11 bu12 bu13 bu14 bu15 A16 => ?_)
          refine xi_getfield (pc' := 188) (v := .ref 142) kc_40_185 rfl rfl rfl A16 rfl ?_
          refine xi_iload (pc' := 190) (x := x4) kc_40_188 rfl rfl ?_
          refine xi_aload_n (pc' := 191) (x := 115) kc_40_190 rfl rfl ?_
          refine xi_getfield (pc' := 194) (v := .ref 142) kc_40_191 rfl rfl rfl A16 rfl ?_
          refine xi_iload (pc' := 196) (x := x4) kc_40_194 rfl rfl ?_
          refine xcps4 (xk_arr K.1 xD_142) (fun y17 A17 hy17 ry17 => ?_)
          refine xcps4 (xj_get hy17 ry17 (i := x4) (by omega) (by omega)) (fun v18 ev18 bv18 dv18 => ?_)
          refine xi_iaload (pc' := 197) (v := v18) kc_40_196 rfl A17 (by decide) rfl (xi_in (by omega) (by rw [hy17]; omega)) ev18 ?_
          refine xi_iload (pc' := 199) (x := x5) kc_40_197 rfl rfl ?_
          refine xcps2 (α := Int32) ((v18 : Int32) + x5) (fun v19 ev19 => ?_)
          have rv19 := xc_rng v19
          refine xi_iadd (pc' := 200) (v := v19) kc_40_199 rfl ev19 ?_
          refine xi_static (mj := 39) (as := [.int v19]) (st1 := [.int x4, .ref 142]) (lv0 := [(0, .int v19)]) kc_40_200 rfl rfl (Nat.le_of_ble_eq_true rfl) rfl rfl (Nat.le_of_ble_eq_true rfl) (hJ _ _ _ _ (by decide)) (xm_le ml_39 rfl) rfl ?_
          refine mt_39_0 hJ hov1 hov2 (d := d) (x0 := v19) K.1 (fun r20 hh21 br20 K22 => ?_)
          have K23 := xk_tr K K22 rfl
          refine xp_115 K23.1 (fun u24 u25 u26 u27 u28 u29 u30 u31 u32 u33 u34 u35 u36 bu24 bu25 bu26 bu27 bu28 bu29 bu30 bu31 bu32 bu33 bu34 bu35 bu36 A37 => ?_)
          have e38 : u4 = u25 := xk_eqi (q := 1) K22 rfl A16 A37 rfl rfl
          subst e38
          have e39 : u7 = u28 := xk_eqi (q := 23) K22 rfl A16 A37 rfl rfl
          subst e39
          show xw J ov (d + 2) 40 (203, [(0, .ref 115), (1, .int x1), (2, .int x2), (3, .int x3), (4, .int x4), (5, .int x5), (6, .int x6)], [.int r20, .int x4, .ref 142], hh21) _
          refine xcps4 (xk_arr K23.1 xD_142) (fun y40 A40 hy40 ry40 => ?_)
          refine xcps4 (xj_set (v := r20) hy40 ry40 x4 (by first | omega | decide) (by first | omega | decide)) (fun y41 s41 hy41 ry41 => ?_)
          refine xi_iastore (pc' := 204) (x' := y41) kc_40_203 rfl A40 rfl (xi_in (by omega) (by rw [hy40]; omega)) s41 (fun hh41 eh41 => ?_)
          have K42 := xk_pa K23 (xk_wa rfl) xD_142 hy41 ry41 eh41
          refine xi_return kc_40_204 mr_40 ?_
          exact kk hh41 K42
      · refine xi_cmf (pc' := 86) kc_40_83 rfl (xc_ge_f (X := x6.toInt) (Y := 12) rfl (by decide) (by omega)) ?_
        refine xi_iload_n (pc' := 87) (x := x3) kc_40_86 rfl rfl ?_
        by_cases c43 : x3.toInt ≤ 0
        · refine xi_ift (pc' := 179) kc_40_87 rfl (xc_le_t (X := x3.toInt) (Y := 0) rfl (by decide) (by omega)) ?_
          refine xi_iload (pc' := 181) (x := x4) kc_40_179 rfl rfl ?_
          by_cases c44 : x4.toInt < 0
          · refine xi_ift (pc' := 204) kc_40_181 rfl (xc_lt_t (X := x4.toInt) (Y := 0) rfl (by decide) (by omega)) ?_
            refine xi_return kc_40_204 mr_40 ?_
            exact kk h K
          · refine xi_iff (pc' := 184) kc_40_181 rfl (xc_lt_f (X := x4.toInt) (Y := 0) rfl (by decide) (by omega)) ?_
            refine xi_aload_n (pc' := 185) (x := 115) kc_40_184 rfl rfl ?_
            refine xp_115 K.1 (fun u45 u46 u47 u48 u49 u50 u51 u52 u53 u54 u55 u56 u57 bu45 bu46 bu47 bu48 bu49 bu50 bu51 bu52 bu53 bu54 bu55 bu56 bu57 A58 => ?_)
            refine xi_getfield (pc' := 188) (v := .ref 142) kc_40_185 rfl rfl rfl A58 rfl ?_
            refine xi_iload (pc' := 190) (x := x4) kc_40_188 rfl rfl ?_
            refine xi_aload_n (pc' := 191) (x := 115) kc_40_190 rfl rfl ?_
            refine xi_getfield (pc' := 194) (v := .ref 142) kc_40_191 rfl rfl rfl A58 rfl ?_
            refine xi_iload (pc' := 196) (x := x4) kc_40_194 rfl rfl ?_
            refine xcps4 (xk_arr K.1 xD_142) (fun y59 A59 hy59 ry59 => ?_)
            refine xcps4 (xj_get hy59 ry59 (i := x4) (by omega) (by omega)) (fun v60 ev60 bv60 dv60 => ?_)
            refine xi_iaload (pc' := 197) (v := v60) kc_40_196 rfl A59 (by decide) rfl (xi_in (by omega) (by rw [hy59]; omega)) ev60 ?_
            refine xi_iload (pc' := 199) (x := x5) kc_40_197 rfl rfl ?_
            refine xcps2 (α := Int32) ((v60 : Int32) + x5) (fun v61 ev61 => ?_)
            have rv61 := xc_rng v61
            refine xi_iadd (pc' := 200) (v := v61) kc_40_199 rfl ev61 ?_
            refine xi_static (mj := 39) (as := [.int v61]) (st1 := [.int x4, .ref 142]) (lv0 := [(0, .int v61)]) kc_40_200 rfl rfl (Nat.le_of_ble_eq_true rfl) rfl rfl (Nat.le_of_ble_eq_true rfl) (hJ _ _ _ _ (by decide)) (xm_le ml_39 rfl) rfl ?_
            refine mt_39_0 hJ hov1 hov2 (d := d) (x0 := v61) K.1 (fun r62 hh63 br62 K64 => ?_)
            have K65 := xk_tr K K64 rfl
            refine xp_115 K65.1 (fun u66 u67 u68 u69 u70 u71 u72 u73 u74 u75 u76 u77 u78 bu66 bu67 bu68 bu69 bu70 bu71 bu72 bu73 bu74 bu75 bu76 bu77 bu78 A79 => ?_)
            have e80 : u46 = u67 := xk_eqi (q := 1) K64 rfl A58 A79 rfl rfl
            subst e80
            have e81 : u49 = u70 := xk_eqi (q := 23) K64 rfl A58 A79 rfl rfl
            subst e81
            show xw J ov (d + 2) 40 (203, [(0, .ref 115), (1, .int x1), (2, .int x2), (3, .int x3), (4, .int x4), (5, .int x5), (6, .int x6)], [.int r62, .int x4, .ref 142], hh63) _
            refine xcps4 (xk_arr K65.1 xD_142) (fun y82 A82 hy82 ry82 => ?_)
            refine xcps4 (xj_set (v := r62) hy82 ry82 x4 (by first | omega | decide) (by first | omega | decide)) (fun y83 s83 hy83 ry83 => ?_)
            refine xi_iastore (pc' := 204) (x' := y83) kc_40_203 rfl A82 rfl (xi_in (by omega) (by rw [hy82]; omega)) s83 (fun hh83 eh83 => ?_)
            have K84 := xk_pa K65 (xk_wa rfl) xD_142 hy83 ry83 eh83
            refine xi_return kc_40_204 mr_40 ?_
            exact kk hh83 K84
        · refine xi_iff (pc' := 90) kc_40_87 rfl (xc_le_f (X := x3.toInt) (Y := 0) rfl (by decide) (by omega)) ?_
          refine xi_aload_n (pc' := 91) (x := 115) kc_40_90 rfl rfl ?_
          refine xp_115 K.1 (fun u85 u86 u87 u88 u89 u90 u91 u92 u93 u94 u95 u96 u97 bu85 bu86 bu87 bu88 bu89 bu90 bu91 bu92 bu93 bu94 bu95 bu96 bu97 A98 => ?_)
          refine xi_getfield (pc' := 94) (v := .ref 125) kc_40_91 rfl rfl rfl A98 rfl ?_
          refine xi_iload (pc' := 96) (x := x6) kc_40_94 rfl rfl ?_
          refine xcps4 (xk_arr K.1 xD_125) (fun y99 A99 hy99 ry99 => ?_)
          refine xcps4 (xj_get hy99 ry99 (i := x6) (by omega) (by omega)) (fun v100 ev100 bv100 dv100 => ?_)
          refine xi_iaload (pc' := 97) (v := v100) kc_40_96 rfl A99 (by decide) rfl (xi_in (by omega) (by rw [hy99]; omega)) ev100 ?_
          refine xi_iload_n (pc' := 98) (x := x1) kc_40_97 rfl rfl ?_
          by_cases c101 : v100.toInt = x1.toInt
          · refine xi_cmf (pc' := 101) kc_40_98 rfl (xc_ne_f (X := v100.toInt) (Y := x1.toInt) rfl rfl (by omega)) ?_
            refine xi_aload_n (pc' := 102) (x := 115) kc_40_101 rfl rfl ?_
            refine xi_getfield (pc' := 105) (v := .ref 117) kc_40_102 rfl rfl rfl A98 rfl ?_
            refine xi_iload_n (pc' := 106) (x := x1) kc_40_105 rfl rfl ?_
            refine xcps4 (xk_arr K.1 xD_117) (fun y102 A102 hy102 ry102 => ?_)
            refine xcps4 (xj_get hy102 ry102 (i := x1) (by omega) (by omega)) (fun v103 ev103 bv103 dv103 => ?_)
            refine xi_iaload (pc' := 107) (v := v103) kc_40_106 rfl A102 (by decide) rfl (xi_in (by omega) (by rw [hy102]; omega)) ev103 ?_
            refine xi_aload_n (pc' := 108) (x := 115) kc_40_107 rfl rfl ?_
            refine xi_getfield (pc' := 111) (v := .int u90) kc_40_108 rfl rfl rfl A98 rfl ?_
            refine xcps2 (α := Int32) ((v103 : Int32) - u90) (fun v104 ev104 => ?_)
            have rv104 := xc_rng v104
            refine xi_isub (pc' := 112) (v := v104) kc_40_111 rfl ev104 ?_
            refine xi_aload_n (pc' := 113) (x := 115) kc_40_112 rfl rfl ?_
            refine xi_getfield (pc' := 116) (v := .ref 126) kc_40_113 rfl rfl rfl A98 rfl ?_
            refine xi_iload (pc' := 118) (x := x6) kc_40_116 rfl rfl ?_
            refine xcps4 (xk_arr K.1 xD_126) (fun y105 A105 hy105 ry105 => ?_)
            refine xcps4 (xj_get hy105 ry105 (i := x6) (by omega) (by omega)) (fun v106 ev106 bv106 dv106 => ?_)
            refine xi_iaload (pc' := 119) (v := v106) kc_40_118 rfl A105 (by decide) rfl (xi_in (by omega) (by rw [hy105]; omega)) ev106 ?_
            refine xcps2 (α := Int32) ((v104 : Int32) * v106) (fun v107 ev107 => ?_)
            have rv107 := xc_rng v107
            refine xi_imul (pc' := 120) (v := v107) kc_40_119 rfl ev107 ?_
            refine xi_bipush (pc' := 122) (v := 100) kc_40_120 rfl rfl ?_
            refine xcps2 (α := Int32) (v107 / 100) (fun v108 ev108 => ?_)
            have dv108 : 100 * v108.toInt ≤ v107.toInt + 99 ∧ v107.toInt ≤ 100 * v108.toInt + 99 := by rw [← ev108]; exact xz_div (X := v107.toInt) (Y := 100) rfl (by decide) (by decide)
            have bv108 : -21474837 ≤ v108.toInt ∧ v108.toInt ≤ 21474837 := by omega
            refine xi_idiv (pc' := 123) (v := v108) kc_40_122 rfl ev108 (by decide) ?_
            refine xi_istore (pc' := 125) (lv' := [(7, .int v108), (0, .ref 115), (1, .int x1), (2, .int x2), (3, .int x3), (4, .int x4), (5, .int x5), (6, .int x6)]) kc_40_123 rfl rfl (xm_lt ml_40 rfl) ?_
            refine xi_iload (pc' := 127) (x := v108) kc_40_125 rfl rfl ?_
            by_cases c109 : 0 ≤ v108.toInt
            · refine xi_ift (pc' := 134) kc_40_127 rfl (xc_ge_t (X := v108.toInt) (Y := 0) rfl (by decide) (by omega)) ?_
              refine xi_iload_n (pc' := 135) (x := x2) kc_40_134 rfl rfl ?_
              obtain ⟨v110, ev110⟩ : ∃ q, (x2 : Int32).toInt64 = q := ⟨_, rfl⟩
              have zv110 : v110 ≠ 0 := xj_l0 ev110 (by omega)
              refine xi_i2l (pc' := 136) (v := v110) kc_40_135 rfl ev110 ?_
              refine xi_iload (pc' := 138) (x := v108) kc_40_136 rfl rfl ?_
              obtain ⟨v111, ev111⟩ : ∃ q, (v108 : Int32).toInt64 = q := ⟨_, rfl⟩
              refine xi_i2l (pc' := 139) (v := v111) kc_40_138 rfl ev111 ?_
              refine xcps2 (α := Int64) ((v110 : Int64) * v111) (fun v112 ev112 => ?_)
              refine xi_lmul (pc' := 140) (v := v112) kc_40_139 rfl ev112 ?_
              refine xi_iload_n (pc' := 141) (x := x3) kc_40_140 rfl rfl ?_
              obtain ⟨v113, ev113⟩ : ∃ q, (x3 : Int32).toInt64 = q := ⟨_, rfl⟩
              have zv113 : v113 ≠ 0 := xj_l0 ev113 (by omega)
              refine xi_i2l (pc' := 142) (v := v113) kc_40_141 rfl ev113 ?_
              refine xcps2 (α := Int64) ((v112 : Int64) / v113) (fun v114 ev114 => ?_)
              refine xi_ldiv (pc' := 143) (v := v114) kc_40_142 rfl ev114 zv113 ?_
              obtain ⟨v115, ev115⟩ : ∃ q, (v114 : Int64).toInt32 = q := ⟨_, rfl⟩
              have rv115 := xc_rng v115
              refine xi_l2i (pc' := 144) (v := v115) kc_40_143 rfl ev115 ?_
              refine xi_istore (pc' := 146) (lv' := [(8, .int v115), (7, .int v108), (0, .ref 115), (1, .int x1), (2, .int x2), (3, .int x3), (4, .int x4), (5, .int x5), (6, .int x6)]) kc_40_144 rfl rfl (xm_lt ml_40 rfl) ?_
              refine xi_aload_n (pc' := 147) (x := 115) kc_40_146 rfl rfl ?_
              refine xi_getfield (pc' := 150) (v := .ref 142) kc_40_147 rfl rfl rfl A98 rfl ?_
              refine xi_iload (pc' := 152) (x := x6) kc_40_150 rfl rfl ?_
              refine xi_aload_n (pc' := 153) (x := 115) kc_40_152 rfl rfl ?_
              refine xi_getfield (pc' := 156) (v := .ref 142) kc_40_153 rfl rfl rfl A98 rfl ?_
              refine xi_iload (pc' := 158) (x := x6) kc_40_156 rfl rfl ?_
              refine xcps4 (xk_arr K.1 xD_142) (fun y116 A116 hy116 ry116 => ?_)
              refine xcps4 (xj_get hy116 ry116 (i := x6) (by omega) (by omega)) (fun v117 ev117 bv117 dv117 => ?_)
              refine xi_iaload (pc' := 159) (v := v117) kc_40_158 rfl A116 (by decide) rfl (xi_in (by omega) (by rw [hy116]; omega)) ev117 ?_
              refine xi_iload (pc' := 161) (x := v115) kc_40_159 rfl rfl ?_
              refine xcps2 (α := Int32) ((v117 : Int32) + v115) (fun v118 ev118 => ?_)
              have rv118 := xc_rng v118
              refine xi_iadd (pc' := 162) (v := v118) kc_40_161 rfl ev118 ?_
              refine xi_static (mj := 39) (as := [.int v118]) (st1 := [.int x6, .ref 142]) (lv0 := [(0, .int v118)]) kc_40_162 rfl rfl (Nat.le_of_ble_eq_true rfl) rfl rfl (Nat.le_of_ble_eq_true rfl) (hJ _ _ _ _ (by decide)) (xm_le ml_39 rfl) rfl ?_
              refine mt_39_0 hJ hov1 hov2 (d := d) (x0 := v118) K.1 (fun r119 hh120 br119 K121 => ?_)
              have K122 := xk_tr K K121 rfl
              refine xp_115 K122.1 (fun u123 u124 u125 u126 u127 u128 u129 u130 u131 u132 u133 u134 u135 bu123 bu124 bu125 bu126 bu127 bu128 bu129 bu130 bu131 bu132 bu133 bu134 bu135 A136 => ?_)
              have e137 : u86 = u124 := xk_eqi (q := 1) K121 rfl A98 A136 rfl rfl
              subst e137
              have e138 : u89 = u127 := xk_eqi (q := 23) K121 rfl A98 A136 rfl rfl
              subst e138
              have A139 := xk_eqa (q := 0) K121 rfl A99
              show xw J ov (d + 2) 40 (165, [(8, .int v115), (7, .int v108), (0, .ref 115), (1, .int x1), (2, .int x2), (3, .int x3), (4, .int x4), (5, .int x5), (6, .int x6)], [.int r119, .int x6, .ref 142], hh120) _
              refine xcps4 (xk_arr K122.1 xD_142) (fun y140 A140 hy140 ry140 => ?_)
              refine xcps4 (xj_set (v := r119) hy140 ry140 x6 (by first | omega | decide) (by first | omega | decide)) (fun y141 s141 hy141 ry141 => ?_)
              refine xi_iastore (pc' := 166) (x' := y141) kc_40_165 rfl A140 rfl (xi_in (by omega) (by rw [hy140]; omega)) s141 (fun hh141 eh141 => ?_)
              have K142 := xk_pa K122 (xk_wa rfl) xD_142 hy141 ry141 eh141
              refine xi_iload (pc' := 168) (x := x5) kc_40_166 rfl rfl ?_
              refine xi_iload (pc' := 170) (x := v115) kc_40_168 rfl rfl ?_
              refine xcps2 (α := Int32) ((x5 : Int32) - v115) (fun v143 ev143 => ?_)
              have rv143 := xc_rng v143
              refine xi_isub (pc' := 171) (v := v143) kc_40_170 rfl ev143 ?_
              refine xi_istore (pc' := 173) (lv' := [(5, .int v143), (8, .int v115), (7, .int v108), (0, .ref 115), (1, .int x1), (2, .int x2), (3, .int x3), (4, .int x4), (6, .int x6)]) kc_40_171 rfl rfl (xm_lt ml_40 rfl) ?_
              refine xcps2 (α := Int32) (x6 + 1) (fun v144 ev144 => ?_)
              have zv144 : v144.toInt = (x6.toInt + 1) := by rw [← ev144]; exact (xz_add (X := x6.toInt) (Y := 1) rfl (by decide) (by omega) (by omega)).trans (by omega)
              refine xi_iinc (pc' := 176) (x := x6) (v := v144) (lv' := [(6, .int v144), (5, .int v143), (8, .int v115), (7, .int v108), (0, .ref 115), (1, .int x1), (2, .int x2), (3, .int x3), (4, .int x4)]) kc_40_173 rfl rfl ev144 rfl (xm_lt ml_40 rfl) ?_
              refine xi_goto (pc' := 79) kc_40_176 rfl ?_
              refine xw_lv (b := [(0, .ref 115), (1, .int x1), (2, .int x2), (3, .int x3), (4, .int x4), (5, .int v143), (6, .int v144)]) (lvS_cons (lvS_cons (lvS_cons (lvS_cons (lvS_cons (lvS_cons (lvS_cons (lvS_nil (show ([6, 5, 8, 7, 0, 1, 2, 3, 4] : List Nat).Nodup by decide)) rfl) rfl) rfl) rfl) rfl) rfl) rfl) ?_
              exact i1 x1 x2 x3 x4 v143 v144 hh141 (by omega) (by omega) (by omega) (by omega) K142 (by omega)
            · refine xi_iff (pc' := 130) kc_40_127 rfl (xc_ge_f (X := v108.toInt) (Y := 0) rfl (by decide) (by omega)) ?_
              refine xi_iconst (pc' := 131) (v := 0) kc_40_130 rfl rfl ?_
              refine xi_goto (pc' := 144) kc_40_131 rfl ?_
              refine xi_istore (pc' := 146) (lv' := [(8, .int 0), (7, .int v108), (0, .ref 115), (1, .int x1), (2, .int x2), (3, .int x3), (4, .int x4), (5, .int x5), (6, .int x6)]) kc_40_144 rfl rfl (xm_lt ml_40 rfl) ?_
              refine xi_aload_n (pc' := 147) (x := 115) kc_40_146 rfl rfl ?_
              refine xi_getfield (pc' := 150) (v := .ref 142) kc_40_147 rfl rfl rfl A98 rfl ?_
              refine xi_iload (pc' := 152) (x := x6) kc_40_150 rfl rfl ?_
              refine xi_aload_n (pc' := 153) (x := 115) kc_40_152 rfl rfl ?_
              refine xi_getfield (pc' := 156) (v := .ref 142) kc_40_153 rfl rfl rfl A98 rfl ?_
              refine xi_iload (pc' := 158) (x := x6) kc_40_156 rfl rfl ?_
              refine xcps4 (xk_arr K.1 xD_142) (fun y145 A145 hy145 ry145 => ?_)
              refine xcps4 (xj_get hy145 ry145 (i := x6) (by omega) (by omega)) (fun v146 ev146 bv146 dv146 => ?_)
              refine xi_iaload (pc' := 159) (v := v146) kc_40_158 rfl A145 (by decide) rfl (xi_in (by omega) (by rw [hy145]; omega)) ev146 ?_
              refine xi_iload (pc' := 161) (x := 0) kc_40_159 rfl rfl ?_
              refine xcps2 (α := Int32) (v146 + 0) (fun v147 ev147 => ?_)
              have zv147 : v147.toInt = v146.toInt := by rw [← ev147]; exact (xz_add (X := v146.toInt) (Y := 0) rfl (by decide) (by omega) (by omega)).trans (by omega)
              refine xi_iadd (pc' := 162) (v := v147) kc_40_161 rfl ev147 ?_
              refine xi_static (mj := 39) (as := [.int v147]) (st1 := [.int x6, .ref 142]) (lv0 := [(0, .int v147)]) kc_40_162 rfl rfl (Nat.le_of_ble_eq_true rfl) rfl rfl (Nat.le_of_ble_eq_true rfl) (hJ _ _ _ _ (by decide)) (xm_le ml_39 rfl) rfl ?_
              refine mt_39_0 hJ hov1 hov2 (d := d) (x0 := v147) K.1 (fun r148 hh149 br148 K150 => ?_)
              have K151 := xk_tr K K150 rfl
              refine xp_115 K151.1 (fun u152 u153 u154 u155 u156 u157 u158 u159 u160 u161 u162 u163 u164 bu152 bu153 bu154 bu155 bu156 bu157 bu158 bu159 bu160 bu161 bu162 bu163 bu164 A165 => ?_)
              have e166 : u86 = u153 := xk_eqi (q := 1) K150 rfl A98 A165 rfl rfl
              subst e166
              have e167 : u89 = u156 := xk_eqi (q := 23) K150 rfl A98 A165 rfl rfl
              subst e167
              have A168 := xk_eqa (q := 0) K150 rfl A99
              show xw J ov (d + 2) 40 (165, [(8, .int 0), (7, .int v108), (0, .ref 115), (1, .int x1), (2, .int x2), (3, .int x3), (4, .int x4), (5, .int x5), (6, .int x6)], [.int r148, .int x6, .ref 142], hh149) _
              refine xcps4 (xk_arr K151.1 xD_142) (fun y169 A169 hy169 ry169 => ?_)
              refine xcps4 (xj_set (v := r148) hy169 ry169 x6 (by first | omega | decide) (by first | omega | decide)) (fun y170 s170 hy170 ry170 => ?_)
              refine xi_iastore (pc' := 166) (x' := y170) kc_40_165 rfl A169 rfl (xi_in (by omega) (by rw [hy169]; omega)) s170 (fun hh170 eh170 => ?_)
              have K171 := xk_pa K151 (xk_wa rfl) xD_142 hy170 ry170 eh170
              refine xi_iload (pc' := 168) (x := x5) kc_40_166 rfl rfl ?_
              refine xi_iload (pc' := 170) (x := 0) kc_40_168 rfl rfl ?_
              refine xcps2 (α := Int32) (x5 - 0) (fun v172 ev172 => ?_)
              have zv172 : v172.toInt = x5.toInt := by rw [← ev172]; exact (xz_sub (X := x5.toInt) (Y := 0) rfl (by decide) (by omega) (by omega)).trans (by omega)
              refine xi_isub (pc' := 171) (v := v172) kc_40_170 rfl ev172 ?_
              refine xi_istore (pc' := 173) (lv' := [(5, .int v172), (8, .int 0), (7, .int v108), (0, .ref 115), (1, .int x1), (2, .int x2), (3, .int x3), (4, .int x4), (6, .int x6)]) kc_40_171 rfl rfl (xm_lt ml_40 rfl) ?_
              refine xcps2 (α := Int32) (x6 + 1) (fun v173 ev173 => ?_)
              have zv173 : v173.toInt = (x6.toInt + 1) := by rw [← ev173]; exact (xz_add (X := x6.toInt) (Y := 1) rfl (by decide) (by omega) (by omega)).trans (by omega)
              refine xi_iinc (pc' := 176) (x := x6) (v := v173) (lv' := [(6, .int v173), (5, .int v172), (8, .int 0), (7, .int v108), (0, .ref 115), (1, .int x1), (2, .int x2), (3, .int x3), (4, .int x4)]) kc_40_173 rfl rfl ev173 rfl (xm_lt ml_40 rfl) ?_
              refine xi_goto (pc' := 79) kc_40_176 rfl ?_
              refine xw_lv (b := [(0, .ref 115), (1, .int x1), (2, .int x2), (3, .int x3), (4, .int x4), (5, .int v172), (6, .int v173)]) (lvS_cons (lvS_cons (lvS_cons (lvS_cons (lvS_cons (lvS_cons (lvS_cons (lvS_nil (show ([6, 5, 8, 7, 0, 1, 2, 3, 4] : List Nat).Nodup by decide)) rfl) rfl) rfl) rfl) rfl) rfl) rfl) ?_
              exact i1 x1 x2 x3 x4 v172 v173 hh170 (by omega) (by omega) (by omega) (by omega) K171 (by omega)
          · refine xi_cmt (pc' := 173) kc_40_98 rfl (xc_ne_t (X := v100.toInt) (Y := x1.toInt) rfl rfl (by omega)) ?_
            refine xcps2 (α := Int32) (x6 + 1) (fun v174 ev174 => ?_)
            have zv174 : v174.toInt = (x6.toInt + 1) := by rw [← ev174]; exact (xz_add (X := x6.toInt) (Y := 1) rfl (by decide) (by omega) (by omega)).trans (by omega)
            refine xi_iinc (pc' := 176) (x := x6) (v := v174) (lv' := [(6, .int v174), (0, .ref 115), (1, .int x1), (2, .int x2), (3, .int x3), (4, .int x4), (5, .int x5)]) kc_40_173 rfl rfl ev174 rfl (xm_lt ml_40 rfl) ?_
            refine xi_goto (pc' := 79) kc_40_176 rfl ?_
            refine xw_lv (b := [(0, .ref 115), (1, .int x1), (2, .int x2), (3, .int x3), (4, .int x4), (5, .int x5), (6, .int v174)]) (lvS_cons (lvS_cons (lvS_cons (lvS_cons (lvS_cons (lvS_cons (lvS_cons (lvS_nil (show ([6, 0, 1, 2, 3, 4, 5] : List Nat).Nodup by decide)) rfl) rfl) rfl) rfl) rfl) rfl) rfl) ?_
            exact i1 x1 x2 x3 x4 x5 v174 h (by omega) (by omega) (by omega) (by omega) K (by omega)
set_option maxHeartbeats 4000000 in
theorem mt_40_0 {J : xe_J} {ov : List (List Int32)} (hJ : ∀ d mj as h, mj ≠ xe_loff → J d mj as h = none) (hov1 : ov[1]? = some [10, 0, 0, 0, 0, 0]) (hov2 : ov[2]? = some [99, 30, 50, 50, 1, 99999]) {d : Nat} {Q : Option Value → xe_H → Prop} {h : xe_H} {x1 : Int32} {x2 : Int32} (T : xt h) (b1 : (0 ≤ x1.toInt ∧ x1.toInt ≤ 5)) (b2 : (1 ≤ x2.toInt ∧ x2.toInt ≤ 2147483647)) (kk : (∀ h' : xe_H, xk [(0, 9), (115, 1), (83, 0), (29, 0), (31, 0), (33, 0), (35, 0), (37, 0), (39, 0), (41, 0), (43, 0), (45, 0), (47, 0), (49, 0), (51, 0), (125, 0), (29, 2), (31, 2), (33, 2), (35, 2), (37, 2), (39, 2), (41, 2), (43, 2), (45, 2), (47, 2), (49, 2), (51, 2), (127, 0), (1, 5), (115, 23)] h h' → Q none h')) : xw J ov (d + 2) 40 (0, [(0, .ref 115), (1, .int x1), (2, .int x2)], [], h) Q := by
  have K : xk [(0, 9), (115, 1), (83, 0), (29, 0), (31, 0), (33, 0), (35, 0), (37, 0), (39, 0), (41, 0), (43, 0), (45, 0), (47, 0), (49, 0), (51, 0), (125, 0), (29, 2), (31, 2), (33, 2), (35, 2), (37, 2), (39, 2), (41, 2), (43, 2), (45, 2), (47, 2), (49, 2), (51, 2), (127, 0), (1, 5), (115, 23)] h h := xk_re T
  refine xi_iconst (pc' := 1) (v := 0) kc_40_0 rfl rfl ?_
  refine xi_istore_n (pc' := 2) (lv' := [(3, .int 0), (0, .ref 115), (1, .int x1), (2, .int x2)]) kc_40_1 rfl rfl (xm_lt ml_40 rfl) ?_
  refine xi_iconst (pc' := 3) (v := (-1)) kc_40_2 rfl rfl ?_
  refine xi_istore (pc' := 5) (lv' := [(4, .int (-1)), (3, .int 0), (0, .ref 115), (1, .int x1), (2, .int x2)]) kc_40_3 rfl rfl (xm_lt ml_40 rfl) ?_
  refine xi_bipush (pc' := 7) (v := 11) kc_40_5 rfl rfl ?_
  refine xi_istore (pc' := 9) (lv' := [(5, .int 11), (4, .int (-1)), (3, .int 0), (0, .ref 115), (1, .int x1), (2, .int x2)]) kc_40_7 rfl rfl (xm_lt ml_40 rfl) ?_
  have zcm1 : ((-1) : Int32).toInt = (-1) := by decide
  have zc0 : (0 : Int32).toInt = 0 := by decide
  have zc11 : (11 : Int32).toInt = 11 := by decide
  refine xw_lv (b := [(0, .ref 115), (1, .int x1), (2, .int x2), (3, .int 0), (4, .int (-1)), (5, .int 11)]) (lvS_cons (lvS_cons (lvS_cons (lvS_cons (lvS_cons (lvS_cons (lvS_nil (show ([5, 4, 3, 0, 1, 2] : List Nat).Nodup by decide)) rfl) rfl) rfl) rfl) rfl) rfl) ?_
  exact (lp_40_0 hJ hov1 hov2 (d := d) (hb := h) (fun h9 K9 => kk h9 (xk_tr K K9 rfl)) 26).1 x1 x2 0 (-1) 11 h (by omega) (by omega) (by omega) (by omega) (xk_re K.1) (by omega)
