set_option maxHeartbeats 8000000 in
theorem lc_27 {J : xe_J} {ov : List (List Int32)} (hJ : ∀ d mj as h, mj ≠ xe_loff → J d mj as h = none) {a0 a1 a2 a3 a4 a5 : Int32} (hov0 : ov[0]? = some [a0, a1, a2, a3, a4, a5]) (hov1 : ov[1]? = some [10, 0, 0, 0, 0, 0]) (hov2 : ov[2]? = some [99, 30, 50, 50, 1, 99999]) {h0 : xe_H} (F : xf_fr h0) (hn0 : h0.length ≤ 600002) (hz0 : xe_sz h0 ≤ 7302232) : xw J ov 100 196 (1233, [(4, .int 0), (3, .ref 167), (2, .ref 115), (1, .ref 0), (0, .ref 1000000)], [], h0) xf_Q := by
  have rr1 := xc_rng a1
  have rr2 := xc_rng a2
  have rr3 := xc_rng a3
  have rr4 := xc_rng a4
  have rr5 := xc_rng a5
  refine xi_aload_n (pc' := 1234) (x := 0) kc_196_1233 rfl rfl ?_
  refine xi_aload_n (pc' := 1235) (x := 1000000) kc_196_1234 rfl rfl ?_
  refine xi_iload (pc' := 1237) (x := 0) kc_196_1235 rfl rfl ?_
  refine xi_iconst (pc' := 1238) (v := 1) kc_196_1237 rfl rfl ?_
  refine xi_iadd (pc' := 1239) (v := 1) kc_196_1238 rfl rfl ?_
  refine xi_ialoadO (pc' := 1240) (v := a1) kc_196_1239 rfl (by decide) hov0 (xi_in (n := 6) (by decide) (by decide)) rfl ?_
  refine xi_virtual (mj := 173) (as := [.int a1]) (st1 := []) (lv0 := [(0, .ref 0), (1, .int a1)]) kc_196_1240 rfl rfl rfl rfl rfl (F 0 _ hl_0) (Nat.le_of_ble_eq_true rfl) (hJ _ _ _ _ (by decide)) (xm_le ml_173 rfl) rfl ?_
  refine xi_iload_n (pc' := 1) (x := a1) kc_173_0 rfl rfl ?_
  by_cases c1 : a1.toInt = 0
  · refine xi_ift (pc' := 16) kc_173_1 rfl (xc_eq_t (X := a1.toInt) (Y := 0) rfl (by decide) (by omega)) ?_
    refine xi_aload_n (pc' := 17) (x := 0) kc_173_16 rfl rfl ?_
    refine xi_getfield (pc' := 20) (v := .ref 80) kc_173_17 rfl rfl rfl (F 0 _ hl_0) rfl ?_
    refine xi_virtual (mj := 174) (as := []) (st1 := []) (lv0 := [(0, .ref 80)]) kc_173_20 rfl rfl rfl rfl rfl (F 80 _ hl_80) (Nat.le_of_ble_eq_true rfl) (hJ _ _ _ _ (by decide)) (xm_le ml_174 rfl) rfl ?_
    refine xi_iconst (pc' := 1) (v := 0) kc_174_0 rfl rfl ?_
    refine xi_istore_n (pc' := 2) (lv' := [(1, .int 0), (0, .ref 80)]) kc_174_1 rfl rfl (xm_lt ml_174 rfl) ?_
    refine xi_iconst (pc' := 3) (v := 0) kc_174_2 rfl rfl ?_
    refine xi_istore_n (pc' := 4) (lv' := [(2, .int 0), (1, .int 0), (0, .ref 80)]) kc_174_3 rfl rfl (xm_lt ml_174 rfl) ?_
    refine xi_iload_n (pc' := 5) (x := 0) kc_174_4 rfl rfl ?_
    refine xi_bipush (pc' := 7) (v := 24) kc_174_5 rfl rfl ?_
    refine xi_cmf (pc' := 10) kc_174_7 rfl rfl ?_
    refine xi_iload_n (pc' := 11) (x := 0) kc_174_10 rfl rfl ?_
    refine xi_aload_n (pc' := 12) (x := 80) kc_174_11 rfl rfl ?_
    refine xi_getfield (pc' := 15) (v := .ref 83) kc_174_12 rfl rfl rfl (F 80 _ hl_80) rfl ?_
    refine xi_iload_n (pc' := 16) (x := 0) kc_174_15 rfl rfl ?_
    refine xi_iaload (pc' := 17) (v := 2) kc_174_16 rfl (F 83 _ hl_83) (by decide) rfl (xi_in (n := 24) (by decide) (by decide)) rfl ?_
    refine xi_iconst (pc' := 18) (v := 2) kc_174_17 rfl rfl ?_
    refine xi_cmf (pc' := 21) kc_174_18 rfl rfl ?_
    refine xi_iconst (pc' := 22) (v := 0) kc_174_21 rfl rfl ?_
    refine xi_goto (pc' := 26) kc_174_22 rfl ?_
    refine xi_iadd (pc' := 27) (v := 0) kc_174_26 rfl rfl ?_
    refine xi_istore_n (pc' := 28) (lv' := [(1, .int 0), (2, .int 0), (0, .ref 80)]) kc_174_27 rfl rfl (xm_lt ml_174 rfl) ?_
    refine xi_iinc (pc' := 31) (x := 0) (v := 1) (lv' := [(2, .int 1), (1, .int 0), (0, .ref 80)]) kc_174_28 rfl rfl rfl rfl (xm_lt ml_174 rfl) ?_
    refine xi_goto (pc' := 4) kc_174_31 rfl ?_
    refine xi_iload_n (pc' := 5) (x := 1) kc_174_4 rfl rfl ?_
    refine xi_bipush (pc' := 7) (v := 24) kc_174_5 rfl rfl ?_
    refine xi_cmf (pc' := 10) kc_174_7 rfl rfl ?_
    refine xi_iload_n (pc' := 11) (x := 0) kc_174_10 rfl rfl ?_
    refine xi_aload_n (pc' := 12) (x := 80) kc_174_11 rfl rfl ?_
    refine xi_getfield (pc' := 15) (v := .ref 83) kc_174_12 rfl rfl rfl (F 80 _ hl_80) rfl ?_
    refine xi_iload_n (pc' := 16) (x := 1) kc_174_15 rfl rfl ?_
    refine xi_iaload (pc' := 17) (v := 2) kc_174_16 rfl (F 83 _ hl_83) (by decide) rfl (xi_in (n := 24) (by decide) (by decide)) rfl ?_
    refine xi_iconst (pc' := 18) (v := 2) kc_174_17 rfl rfl ?_
    refine xi_cmf (pc' := 21) kc_174_18 rfl rfl ?_
    refine xi_iconst (pc' := 22) (v := 0) kc_174_21 rfl rfl ?_
    refine xi_goto (pc' := 26) kc_174_22 rfl ?_
    refine xi_iadd (pc' := 27) (v := 0) kc_174_26 rfl rfl ?_
    refine xi_istore_n (pc' := 28) (lv' := [(1, .int 0), (2, .int 1), (0, .ref 80)]) kc_174_27 rfl rfl (xm_lt ml_174 rfl) ?_
    refine xi_iinc (pc' := 31) (x := 1) (v := 2) (lv' := [(2, .int 2), (1, .int 0), (0, .ref 80)]) kc_174_28 rfl rfl rfl rfl (xm_lt ml_174 rfl) ?_
    refine xi_goto (pc' := 4) kc_174_31 rfl ?_
    refine xi_iload_n (pc' := 5) (x := 2) kc_174_4 rfl rfl ?_
    refine xi_bipush (pc' := 7) (v := 24) kc_174_5 rfl rfl ?_
    refine xi_cmf (pc' := 10) kc_174_7 rfl rfl ?_
    refine xi_iload_n (pc' := 11) (x := 0) kc_174_10 rfl rfl ?_
    refine xi_aload_n (pc' := 12) (x := 80) kc_174_11 rfl rfl ?_
    refine xi_getfield (pc' := 15) (v := .ref 83) kc_174_12 rfl rfl rfl (F 80 _ hl_80) rfl ?_
    refine xi_iload_n (pc' := 16) (x := 2) kc_174_15 rfl rfl ?_
    refine xi_iaload (pc' := 17) (v := 2) kc_174_16 rfl (F 83 _ hl_83) (by decide) rfl (xi_in (n := 24) (by decide) (by decide)) rfl ?_
    refine xi_iconst (pc' := 18) (v := 2) kc_174_17 rfl rfl ?_
    refine xi_cmf (pc' := 21) kc_174_18 rfl rfl ?_
    refine xi_iconst (pc' := 22) (v := 0) kc_174_21 rfl rfl ?_
    refine xi_goto (pc' := 26) kc_174_22 rfl ?_
    refine xi_iadd (pc' := 27) (v := 0) kc_174_26 rfl rfl ?_
    refine xi_istore_n (pc' := 28) (lv' := [(1, .int 0), (2, .int 2), (0, .ref 80)]) kc_174_27 rfl rfl (xm_lt ml_174 rfl) ?_
    refine xi_iinc (pc' := 31) (x := 2) (v := 3) (lv' := [(2, .int 3), (1, .int 0), (0, .ref 80)]) kc_174_28 rfl rfl rfl rfl (xm_lt ml_174 rfl) ?_
    refine xi_goto (pc' := 4) kc_174_31 rfl ?_
    refine xi_iload_n (pc' := 5) (x := 3) kc_174_4 rfl rfl ?_
    refine xi_bipush (pc' := 7) (v := 24) kc_174_5 rfl rfl ?_
    refine xi_cmf (pc' := 10) kc_174_7 rfl rfl ?_
    refine xi_iload_n (pc' := 11) (x := 0) kc_174_10 rfl rfl ?_
    refine xi_aload_n (pc' := 12) (x := 80) kc_174_11 rfl rfl ?_
    refine xi_getfield (pc' := 15) (v := .ref 83) kc_174_12 rfl rfl rfl (F 80 _ hl_80) rfl ?_
    refine xi_iload_n (pc' := 16) (x := 3) kc_174_15 rfl rfl ?_
    refine xi_iaload (pc' := 17) (v := 2) kc_174_16 rfl (F 83 _ hl_83) (by decide) rfl (xi_in (n := 24) (by decide) (by decide)) rfl ?_
    refine xi_iconst (pc' := 18) (v := 2) kc_174_17 rfl rfl ?_
    refine xi_cmf (pc' := 21) kc_174_18 rfl rfl ?_
    refine xi_iconst (pc' := 22) (v := 0) kc_174_21 rfl rfl ?_
    refine xi_goto (pc' := 26) kc_174_22 rfl ?_
    refine xi_iadd (pc' := 27) (v := 0) kc_174_26 rfl rfl ?_
    refine xi_istore_n (pc' := 28) (lv' := [(1, .int 0), (2, .int 3), (0, .ref 80)]) kc_174_27 rfl rfl (xm_lt ml_174 rfl) ?_
    refine xi_iinc (pc' := 31) (x := 3) (v := 4) (lv' := [(2, .int 4), (1, .int 0), (0, .ref 80)]) kc_174_28 rfl rfl rfl rfl (xm_lt ml_174 rfl) ?_
    refine xi_goto (pc' := 4) kc_174_31 rfl ?_
    refine xi_iload_n (pc' := 5) (x := 4) kc_174_4 rfl rfl ?_
    refine xi_bipush (pc' := 7) (v := 24) kc_174_5 rfl rfl ?_
    refine xi_cmf (pc' := 10) kc_174_7 rfl rfl ?_
    refine xi_iload_n (pc' := 11) (x := 0) kc_174_10 rfl rfl ?_
    refine xi_aload_n (pc' := 12) (x := 80) kc_174_11 rfl rfl ?_
    refine xi_getfield (pc' := 15) (v := .ref 83) kc_174_12 rfl rfl rfl (F 80 _ hl_80) rfl ?_
    refine xi_iload_n (pc' := 16) (x := 4) kc_174_15 rfl rfl ?_
    refine xi_iaload (pc' := 17) (v := 2) kc_174_16 rfl (F 83 _ hl_83) (by decide) rfl (xi_in (n := 24) (by decide) (by decide)) rfl ?_
    refine xi_iconst (pc' := 18) (v := 2) kc_174_17 rfl rfl ?_
    refine xi_cmf (pc' := 21) kc_174_18 rfl rfl ?_
    refine xi_iconst (pc' := 22) (v := 0) kc_174_21 rfl rfl ?_
    refine xi_goto (pc' := 26) kc_174_22 rfl ?_
    refine xi_iadd (pc' := 27) (v := 0) kc_174_26 rfl rfl ?_
    refine xi_istore_n (pc' := 28) (lv' := [(1, .int 0), (2, .int 4), (0, .ref 80)]) kc_174_27 rfl rfl (xm_lt ml_174 rfl) ?_
    refine xi_iinc (pc' := 31) (x := 4) (v := 5) (lv' := [(2, .int 5), (1, .int 0), (0, .ref 80)]) kc_174_28 rfl rfl rfl rfl (xm_lt ml_174 rfl) ?_
    refine xi_goto (pc' := 4) kc_174_31 rfl ?_
    refine xi_iload_n (pc' := 5) (x := 5) kc_174_4 rfl rfl ?_
    refine xi_bipush (pc' := 7) (v := 24) kc_174_5 rfl rfl ?_
    refine xi_cmf (pc' := 10) kc_174_7 rfl rfl ?_
    refine xi_iload_n (pc' := 11) (x := 0) kc_174_10 rfl rfl ?_
    refine xi_aload_n (pc' := 12) (x := 80) kc_174_11 rfl rfl ?_
    refine xi_getfield (pc' := 15) (v := .ref 83) kc_174_12 rfl rfl rfl (F 80 _ hl_80) rfl ?_
    refine xi_iload_n (pc' := 16) (x := 5) kc_174_15 rfl rfl ?_
    refine xi_iaload (pc' := 17) (v := 2) kc_174_16 rfl (F 83 _ hl_83) (by decide) rfl (xi_in (n := 24) (by decide) (by decide)) rfl ?_
    refine xi_iconst (pc' := 18) (v := 2) kc_174_17 rfl rfl ?_
    refine xi_cmf (pc' := 21) kc_174_18 rfl rfl ?_
    refine xi_iconst (pc' := 22) (v := 0) kc_174_21 rfl rfl ?_
    refine xi_goto (pc' := 26) kc_174_22 rfl ?_
    refine xi_iadd (pc' := 27) (v := 0) kc_174_26 rfl rfl ?_
    refine xi_istore_n (pc' := 28) (lv' := [(1, .int 0), (2, .int 5), (0, .ref 80)]) kc_174_27 rfl rfl (xm_lt ml_174 rfl) ?_
    refine xi_iinc (pc' := 31) (x := 5) (v := 6) (lv' := [(2, .int 6), (1, .int 0), (0, .ref 80)]) kc_174_28 rfl rfl rfl rfl (xm_lt ml_174 rfl) ?_
    refine xi_goto (pc' := 4) kc_174_31 rfl ?_
    refine xi_iload_n (pc' := 5) (x := 6) kc_174_4 rfl rfl ?_
    refine xi_bipush (pc' := 7) (v := 24) kc_174_5 rfl rfl ?_
    refine xi_cmf (pc' := 10) kc_174_7 rfl rfl ?_
    refine xi_iload_n (pc' := 11) (x := 0) kc_174_10 rfl rfl ?_
    refine xi_aload_n (pc' := 12) (x := 80) kc_174_11 rfl rfl ?_
    refine xi_getfield (pc' := 15) (v := .ref 83) kc_174_12 rfl rfl rfl (F 80 _ hl_80) rfl ?_
    refine xi_iload_n (pc' := 16) (x := 6) kc_174_15 rfl rfl ?_
    refine xi_iaload (pc' := 17) (v := 2) kc_174_16 rfl (F 83 _ hl_83) (by decide) rfl (xi_in (n := 24) (by decide) (by decide)) rfl ?_
    refine xi_iconst (pc' := 18) (v := 2) kc_174_17 rfl rfl ?_
    refine xi_cmf (pc' := 21) kc_174_18 rfl rfl ?_
    refine xi_iconst (pc' := 22) (v := 0) kc_174_21 rfl rfl ?_
    refine xi_goto (pc' := 26) kc_174_22 rfl ?_
    refine xi_iadd (pc' := 27) (v := 0) kc_174_26 rfl rfl ?_
    refine xi_istore_n (pc' := 28) (lv' := [(1, .int 0), (2, .int 6), (0, .ref 80)]) kc_174_27 rfl rfl (xm_lt ml_174 rfl) ?_
    refine xi_iinc (pc' := 31) (x := 6) (v := 7) (lv' := [(2, .int 7), (1, .int 0), (0, .ref 80)]) kc_174_28 rfl rfl rfl rfl (xm_lt ml_174 rfl) ?_
    refine xi_goto (pc' := 4) kc_174_31 rfl ?_
    refine xi_iload_n (pc' := 5) (x := 7) kc_174_4 rfl rfl ?_
    refine xi_bipush (pc' := 7) (v := 24) kc_174_5 rfl rfl ?_
    refine xi_cmf (pc' := 10) kc_174_7 rfl rfl ?_
    refine xi_iload_n (pc' := 11) (x := 0) kc_174_10 rfl rfl ?_
    refine xi_aload_n (pc' := 12) (x := 80) kc_174_11 rfl rfl ?_
    refine xi_getfield (pc' := 15) (v := .ref 83) kc_174_12 rfl rfl rfl (F 80 _ hl_80) rfl ?_
    refine xi_iload_n (pc' := 16) (x := 7) kc_174_15 rfl rfl ?_
    refine xi_iaload (pc' := 17) (v := 2) kc_174_16 rfl (F 83 _ hl_83) (by decide) rfl (xi_in (n := 24) (by decide) (by decide)) rfl ?_
    refine xi_iconst (pc' := 18) (v := 2) kc_174_17 rfl rfl ?_
    refine xi_cmf (pc' := 21) kc_174_18 rfl rfl ?_
    refine xi_iconst (pc' := 22) (v := 0) kc_174_21 rfl rfl ?_
    refine xi_goto (pc' := 26) kc_174_22 rfl ?_
    refine xi_iadd (pc' := 27) (v := 0) kc_174_26 rfl rfl ?_
    refine xi_istore_n (pc' := 28) (lv' := [(1, .int 0), (2, .int 7), (0, .ref 80)]) kc_174_27 rfl rfl (xm_lt ml_174 rfl) ?_
    refine xi_iinc (pc' := 31) (x := 7) (v := 8) (lv' := [(2, .int 8), (1, .int 0), (0, .ref 80)]) kc_174_28 rfl rfl rfl rfl (xm_lt ml_174 rfl) ?_
    refine xi_goto (pc' := 4) kc_174_31 rfl ?_
    refine xi_iload_n (pc' := 5) (x := 8) kc_174_4 rfl rfl ?_
    refine xi_bipush (pc' := 7) (v := 24) kc_174_5 rfl rfl ?_
    refine xi_cmf (pc' := 10) kc_174_7 rfl rfl ?_
    refine xi_iload_n (pc' := 11) (x := 0) kc_174_10 rfl rfl ?_
    refine xi_aload_n (pc' := 12) (x := 80) kc_174_11 rfl rfl ?_
    refine xi_getfield (pc' := 15) (v := .ref 83) kc_174_12 rfl rfl rfl (F 80 _ hl_80) rfl ?_
    refine xi_iload_n (pc' := 16) (x := 8) kc_174_15 rfl rfl ?_
    refine xi_iaload (pc' := 17) (v := 2) kc_174_16 rfl (F 83 _ hl_83) (by decide) rfl (xi_in (n := 24) (by decide) (by decide)) rfl ?_
    refine xi_iconst (pc' := 18) (v := 2) kc_174_17 rfl rfl ?_
    refine xi_cmf (pc' := 21) kc_174_18 rfl rfl ?_
    refine xi_iconst (pc' := 22) (v := 0) kc_174_21 rfl rfl ?_
    refine xi_goto (pc' := 26) kc_174_22 rfl ?_
    refine xi_iadd (pc' := 27) (v := 0) kc_174_26 rfl rfl ?_
    refine xi_istore_n (pc' := 28) (lv' := [(1, .int 0), (2, .int 8), (0, .ref 80)]) kc_174_27 rfl rfl (xm_lt ml_174 rfl) ?_
    refine xi_iinc (pc' := 31) (x := 8) (v := 9) (lv' := [(2, .int 9), (1, .int 0), (0, .ref 80)]) kc_174_28 rfl rfl rfl rfl (xm_lt ml_174 rfl) ?_
    refine xi_goto (pc' := 4) kc_174_31 rfl ?_
    refine xi_iload_n (pc' := 5) (x := 9) kc_174_4 rfl rfl ?_
    refine xi_bipush (pc' := 7) (v := 24) kc_174_5 rfl rfl ?_
    refine xi_cmf (pc' := 10) kc_174_7 rfl rfl ?_
    refine xi_iload_n (pc' := 11) (x := 0) kc_174_10 rfl rfl ?_
    refine xi_aload_n (pc' := 12) (x := 80) kc_174_11 rfl rfl ?_
    refine xi_getfield (pc' := 15) (v := .ref 83) kc_174_12 rfl rfl rfl (F 80 _ hl_80) rfl ?_
    refine xi_iload_n (pc' := 16) (x := 9) kc_174_15 rfl rfl ?_
    refine xi_iaload (pc' := 17) (v := 2) kc_174_16 rfl (F 83 _ hl_83) (by decide) rfl (xi_in (n := 24) (by decide) (by decide)) rfl ?_
    refine xi_iconst (pc' := 18) (v := 2) kc_174_17 rfl rfl ?_
    refine xi_cmf (pc' := 21) kc_174_18 rfl rfl ?_
    refine xi_iconst (pc' := 22) (v := 0) kc_174_21 rfl rfl ?_
    refine xi_goto (pc' := 26) kc_174_22 rfl ?_
    refine xi_iadd (pc' := 27) (v := 0) kc_174_26 rfl rfl ?_
    refine xi_istore_n (pc' := 28) (lv' := [(1, .int 0), (2, .int 9), (0, .ref 80)]) kc_174_27 rfl rfl (xm_lt ml_174 rfl) ?_
    refine xi_iinc (pc' := 31) (x := 9) (v := 10) (lv' := [(2, .int 10), (1, .int 0), (0, .ref 80)]) kc_174_28 rfl rfl rfl rfl (xm_lt ml_174 rfl) ?_
    refine xi_goto (pc' := 4) kc_174_31 rfl ?_
    refine xi_iload_n (pc' := 5) (x := 10) kc_174_4 rfl rfl ?_
    refine xi_bipush (pc' := 7) (v := 24) kc_174_5 rfl rfl ?_
    refine xi_cmf (pc' := 10) kc_174_7 rfl rfl ?_
    refine xi_iload_n (pc' := 11) (x := 0) kc_174_10 rfl rfl ?_
    refine xi_aload_n (pc' := 12) (x := 80) kc_174_11 rfl rfl ?_
    refine xi_getfield (pc' := 15) (v := .ref 83) kc_174_12 rfl rfl rfl (F 80 _ hl_80) rfl ?_
    refine xi_iload_n (pc' := 16) (x := 10) kc_174_15 rfl rfl ?_
    refine xi_iaload (pc' := 17) (v := 2) kc_174_16 rfl (F 83 _ hl_83) (by decide) rfl (xi_in (n := 24) (by decide) (by decide)) rfl ?_
    refine xi_iconst (pc' := 18) (v := 2) kc_174_17 rfl rfl ?_
    refine xi_cmf (pc' := 21) kc_174_18 rfl rfl ?_
    refine xi_iconst (pc' := 22) (v := 0) kc_174_21 rfl rfl ?_
    refine xi_goto (pc' := 26) kc_174_22 rfl ?_
    refine xi_iadd (pc' := 27) (v := 0) kc_174_26 rfl rfl ?_
    refine xi_istore_n (pc' := 28) (lv' := [(1, .int 0), (2, .int 10), (0, .ref 80)]) kc_174_27 rfl rfl (xm_lt ml_174 rfl) ?_
    refine xi_iinc (pc' := 31) (x := 10) (v := 11) (lv' := [(2, .int 11), (1, .int 0), (0, .ref 80)]) kc_174_28 rfl rfl rfl rfl (xm_lt ml_174 rfl) ?_
    refine xi_goto (pc' := 4) kc_174_31 rfl ?_
    refine xi_iload_n (pc' := 5) (x := 11) kc_174_4 rfl rfl ?_
    refine xi_bipush (pc' := 7) (v := 24) kc_174_5 rfl rfl ?_
    refine xi_cmf (pc' := 10) kc_174_7 rfl rfl ?_
    refine xi_iload_n (pc' := 11) (x := 0) kc_174_10 rfl rfl ?_
    refine xi_aload_n (pc' := 12) (x := 80) kc_174_11 rfl rfl ?_
    refine xi_getfield (pc' := 15) (v := .ref 83) kc_174_12 rfl rfl rfl (F 80 _ hl_80) rfl ?_
    refine xi_iload_n (pc' := 16) (x := 11) kc_174_15 rfl rfl ?_
    refine xi_iaload (pc' := 17) (v := 2) kc_174_16 rfl (F 83 _ hl_83) (by decide) rfl (xi_in (n := 24) (by decide) (by decide)) rfl ?_
    refine xi_iconst (pc' := 18) (v := 2) kc_174_17 rfl rfl ?_
    refine xi_cmf (pc' := 21) kc_174_18 rfl rfl ?_
    refine xi_iconst (pc' := 22) (v := 0) kc_174_21 rfl rfl ?_
    refine xi_goto (pc' := 26) kc_174_22 rfl ?_
    refine xi_iadd (pc' := 27) (v := 0) kc_174_26 rfl rfl ?_
    refine xi_istore_n (pc' := 28) (lv' := [(1, .int 0), (2, .int 11), (0, .ref 80)]) kc_174_27 rfl rfl (xm_lt ml_174 rfl) ?_
    refine xi_iinc (pc' := 31) (x := 11) (v := 12) (lv' := [(2, .int 12), (1, .int 0), (0, .ref 80)]) kc_174_28 rfl rfl rfl rfl (xm_lt ml_174 rfl) ?_
    refine xi_goto (pc' := 4) kc_174_31 rfl ?_
    refine xi_iload_n (pc' := 5) (x := 12) kc_174_4 rfl rfl ?_
    refine xi_bipush (pc' := 7) (v := 24) kc_174_5 rfl rfl ?_
    refine xi_cmf (pc' := 10) kc_174_7 rfl rfl ?_
    refine xi_iload_n (pc' := 11) (x := 0) kc_174_10 rfl rfl ?_
    refine xi_aload_n (pc' := 12) (x := 80) kc_174_11 rfl rfl ?_
    refine xi_getfield (pc' := 15) (v := .ref 83) kc_174_12 rfl rfl rfl (F 80 _ hl_80) rfl ?_
    refine xi_iload_n (pc' := 16) (x := 12) kc_174_15 rfl rfl ?_
    refine xi_iaload (pc' := 17) (v := 2) kc_174_16 rfl (F 83 _ hl_83) (by decide) rfl (xi_in (n := 24) (by decide) (by decide)) rfl ?_
    refine xi_iconst (pc' := 18) (v := 2) kc_174_17 rfl rfl ?_
    refine xi_cmf (pc' := 21) kc_174_18 rfl rfl ?_
    refine xi_iconst (pc' := 22) (v := 0) kc_174_21 rfl rfl ?_
    refine xi_goto (pc' := 26) kc_174_22 rfl ?_
    refine xi_iadd (pc' := 27) (v := 0) kc_174_26 rfl rfl ?_
    refine xi_istore_n (pc' := 28) (lv' := [(1, .int 0), (2, .int 12), (0, .ref 80)]) kc_174_27 rfl rfl (xm_lt ml_174 rfl) ?_
    refine xi_iinc (pc' := 31) (x := 12) (v := 13) (lv' := [(2, .int 13), (1, .int 0), (0, .ref 80)]) kc_174_28 rfl rfl rfl rfl (xm_lt ml_174 rfl) ?_
    refine xi_goto (pc' := 4) kc_174_31 rfl ?_
    refine xi_iload_n (pc' := 5) (x := 13) kc_174_4 rfl rfl ?_
    refine xi_bipush (pc' := 7) (v := 24) kc_174_5 rfl rfl ?_
    refine xi_cmf (pc' := 10) kc_174_7 rfl rfl ?_
    refine xi_iload_n (pc' := 11) (x := 0) kc_174_10 rfl rfl ?_
    refine xi_aload_n (pc' := 12) (x := 80) kc_174_11 rfl rfl ?_
    refine xi_getfield (pc' := 15) (v := .ref 83) kc_174_12 rfl rfl rfl (F 80 _ hl_80) rfl ?_
    refine xi_iload_n (pc' := 16) (x := 13) kc_174_15 rfl rfl ?_
    refine xi_iaload (pc' := 17) (v := 2) kc_174_16 rfl (F 83 _ hl_83) (by decide) rfl (xi_in (n := 24) (by decide) (by decide)) rfl ?_
    refine xi_iconst (pc' := 18) (v := 2) kc_174_17 rfl rfl ?_
    refine xi_cmf (pc' := 21) kc_174_18 rfl rfl ?_
    refine xi_iconst (pc' := 22) (v := 0) kc_174_21 rfl rfl ?_
    refine xi_goto (pc' := 26) kc_174_22 rfl ?_
    refine xi_iadd (pc' := 27) (v := 0) kc_174_26 rfl rfl ?_
    refine xi_istore_n (pc' := 28) (lv' := [(1, .int 0), (2, .int 13), (0, .ref 80)]) kc_174_27 rfl rfl (xm_lt ml_174 rfl) ?_
    refine xi_iinc (pc' := 31) (x := 13) (v := 14) (lv' := [(2, .int 14), (1, .int 0), (0, .ref 80)]) kc_174_28 rfl rfl rfl rfl (xm_lt ml_174 rfl) ?_
    refine xi_goto (pc' := 4) kc_174_31 rfl ?_
    refine xi_iload_n (pc' := 5) (x := 14) kc_174_4 rfl rfl ?_
    refine xi_bipush (pc' := 7) (v := 24) kc_174_5 rfl rfl ?_
    refine xi_cmf (pc' := 10) kc_174_7 rfl rfl ?_
    refine xi_iload_n (pc' := 11) (x := 0) kc_174_10 rfl rfl ?_
    refine xi_aload_n (pc' := 12) (x := 80) kc_174_11 rfl rfl ?_
    refine xi_getfield (pc' := 15) (v := .ref 83) kc_174_12 rfl rfl rfl (F 80 _ hl_80) rfl ?_
    refine xi_iload_n (pc' := 16) (x := 14) kc_174_15 rfl rfl ?_
    refine xi_iaload (pc' := 17) (v := 2) kc_174_16 rfl (F 83 _ hl_83) (by decide) rfl (xi_in (n := 24) (by decide) (by decide)) rfl ?_
    refine xi_iconst (pc' := 18) (v := 2) kc_174_17 rfl rfl ?_
    refine xi_cmf (pc' := 21) kc_174_18 rfl rfl ?_
    refine xi_iconst (pc' := 22) (v := 0) kc_174_21 rfl rfl ?_
    refine xi_goto (pc' := 26) kc_174_22 rfl ?_
    refine xi_iadd (pc' := 27) (v := 0) kc_174_26 rfl rfl ?_
    refine xi_istore_n (pc' := 28) (lv' := [(1, .int 0), (2, .int 14), (0, .ref 80)]) kc_174_27 rfl rfl (xm_lt ml_174 rfl) ?_
    refine xi_iinc (pc' := 31) (x := 14) (v := 15) (lv' := [(2, .int 15), (1, .int 0), (0, .ref 80)]) kc_174_28 rfl rfl rfl rfl (xm_lt ml_174 rfl) ?_
    refine xi_goto (pc' := 4) kc_174_31 rfl ?_
    refine xi_iload_n (pc' := 5) (x := 15) kc_174_4 rfl rfl ?_
    refine xi_bipush (pc' := 7) (v := 24) kc_174_5 rfl rfl ?_
    refine xi_cmf (pc' := 10) kc_174_7 rfl rfl ?_
    refine xi_iload_n (pc' := 11) (x := 0) kc_174_10 rfl rfl ?_
    refine xi_aload_n (pc' := 12) (x := 80) kc_174_11 rfl rfl ?_
    refine xi_getfield (pc' := 15) (v := .ref 83) kc_174_12 rfl rfl rfl (F 80 _ hl_80) rfl ?_
    refine xi_iload_n (pc' := 16) (x := 15) kc_174_15 rfl rfl ?_
    refine xi_iaload (pc' := 17) (v := 2) kc_174_16 rfl (F 83 _ hl_83) (by decide) rfl (xi_in (n := 24) (by decide) (by decide)) rfl ?_
    refine xi_iconst (pc' := 18) (v := 2) kc_174_17 rfl rfl ?_
    refine xi_cmf (pc' := 21) kc_174_18 rfl rfl ?_
    refine xi_iconst (pc' := 22) (v := 0) kc_174_21 rfl rfl ?_
    refine xi_goto (pc' := 26) kc_174_22 rfl ?_
    refine xi_iadd (pc' := 27) (v := 0) kc_174_26 rfl rfl ?_
    refine xi_istore_n (pc' := 28) (lv' := [(1, .int 0), (2, .int 15), (0, .ref 80)]) kc_174_27 rfl rfl (xm_lt ml_174 rfl) ?_
    refine xi_iinc (pc' := 31) (x := 15) (v := 16) (lv' := [(2, .int 16), (1, .int 0), (0, .ref 80)]) kc_174_28 rfl rfl rfl rfl (xm_lt ml_174 rfl) ?_
    refine xi_goto (pc' := 4) kc_174_31 rfl ?_
    refine xi_iload_n (pc' := 5) (x := 16) kc_174_4 rfl rfl ?_
    refine xi_bipush (pc' := 7) (v := 24) kc_174_5 rfl rfl ?_
    refine xi_cmf (pc' := 10) kc_174_7 rfl rfl ?_
    refine xi_iload_n (pc' := 11) (x := 0) kc_174_10 rfl rfl ?_
    refine xi_aload_n (pc' := 12) (x := 80) kc_174_11 rfl rfl ?_
    refine xi_getfield (pc' := 15) (v := .ref 83) kc_174_12 rfl rfl rfl (F 80 _ hl_80) rfl ?_
    refine xi_iload_n (pc' := 16) (x := 16) kc_174_15 rfl rfl ?_
    refine xi_iaload (pc' := 17) (v := 2) kc_174_16 rfl (F 83 _ hl_83) (by decide) rfl (xi_in (n := 24) (by decide) (by decide)) rfl ?_
    refine xi_iconst (pc' := 18) (v := 2) kc_174_17 rfl rfl ?_
    refine xi_cmf (pc' := 21) kc_174_18 rfl rfl ?_
    refine xi_iconst (pc' := 22) (v := 0) kc_174_21 rfl rfl ?_
    refine xi_goto (pc' := 26) kc_174_22 rfl ?_
    refine xi_iadd (pc' := 27) (v := 0) kc_174_26 rfl rfl ?_
    refine xi_istore_n (pc' := 28) (lv' := [(1, .int 0), (2, .int 16), (0, .ref 80)]) kc_174_27 rfl rfl (xm_lt ml_174 rfl) ?_
    refine xi_iinc (pc' := 31) (x := 16) (v := 17) (lv' := [(2, .int 17), (1, .int 0), (0, .ref 80)]) kc_174_28 rfl rfl rfl rfl (xm_lt ml_174 rfl) ?_
    refine xi_goto (pc' := 4) kc_174_31 rfl ?_
    refine xi_iload_n (pc' := 5) (x := 17) kc_174_4 rfl rfl ?_
    refine xi_bipush (pc' := 7) (v := 24) kc_174_5 rfl rfl ?_
    refine xi_cmf (pc' := 10) kc_174_7 rfl rfl ?_
    refine xi_iload_n (pc' := 11) (x := 0) kc_174_10 rfl rfl ?_
    refine xi_aload_n (pc' := 12) (x := 80) kc_174_11 rfl rfl ?_
    refine xi_getfield (pc' := 15) (v := .ref 83) kc_174_12 rfl rfl rfl (F 80 _ hl_80) rfl ?_
    refine xi_iload_n (pc' := 16) (x := 17) kc_174_15 rfl rfl ?_
    refine xi_iaload (pc' := 17) (v := 2) kc_174_16 rfl (F 83 _ hl_83) (by decide) rfl (xi_in (n := 24) (by decide) (by decide)) rfl ?_
    refine xi_iconst (pc' := 18) (v := 2) kc_174_17 rfl rfl ?_
    refine xi_cmf (pc' := 21) kc_174_18 rfl rfl ?_
    refine xi_iconst (pc' := 22) (v := 0) kc_174_21 rfl rfl ?_
    refine xi_goto (pc' := 26) kc_174_22 rfl ?_
    refine xi_iadd (pc' := 27) (v := 0) kc_174_26 rfl rfl ?_
    refine xi_istore_n (pc' := 28) (lv' := [(1, .int 0), (2, .int 17), (0, .ref 80)]) kc_174_27 rfl rfl (xm_lt ml_174 rfl) ?_
    refine xi_iinc (pc' := 31) (x := 17) (v := 18) (lv' := [(2, .int 18), (1, .int 0), (0, .ref 80)]) kc_174_28 rfl rfl rfl rfl (xm_lt ml_174 rfl) ?_
    refine xi_goto (pc' := 4) kc_174_31 rfl ?_
    refine xi_iload_n (pc' := 5) (x := 18) kc_174_4 rfl rfl ?_
    refine xi_bipush (pc' := 7) (v := 24) kc_174_5 rfl rfl ?_
    refine xi_cmf (pc' := 10) kc_174_7 rfl rfl ?_
    refine xi_iload_n (pc' := 11) (x := 0) kc_174_10 rfl rfl ?_
    refine xi_aload_n (pc' := 12) (x := 80) kc_174_11 rfl rfl ?_
    refine xi_getfield (pc' := 15) (v := .ref 83) kc_174_12 rfl rfl rfl (F 80 _ hl_80) rfl ?_
    refine xi_iload_n (pc' := 16) (x := 18) kc_174_15 rfl rfl ?_
    refine xi_iaload (pc' := 17) (v := 2) kc_174_16 rfl (F 83 _ hl_83) (by decide) rfl (xi_in (n := 24) (by decide) (by decide)) rfl ?_
    refine xi_iconst (pc' := 18) (v := 2) kc_174_17 rfl rfl ?_
    refine xi_cmf (pc' := 21) kc_174_18 rfl rfl ?_
    refine xi_iconst (pc' := 22) (v := 0) kc_174_21 rfl rfl ?_
    refine xi_goto (pc' := 26) kc_174_22 rfl ?_
    refine xi_iadd (pc' := 27) (v := 0) kc_174_26 rfl rfl ?_
    refine xi_istore_n (pc' := 28) (lv' := [(1, .int 0), (2, .int 18), (0, .ref 80)]) kc_174_27 rfl rfl (xm_lt ml_174 rfl) ?_
    refine xi_iinc (pc' := 31) (x := 18) (v := 19) (lv' := [(2, .int 19), (1, .int 0), (0, .ref 80)]) kc_174_28 rfl rfl rfl rfl (xm_lt ml_174 rfl) ?_
    refine xi_goto (pc' := 4) kc_174_31 rfl ?_
    refine xi_iload_n (pc' := 5) (x := 19) kc_174_4 rfl rfl ?_
    refine xi_bipush (pc' := 7) (v := 24) kc_174_5 rfl rfl ?_
    refine xi_cmf (pc' := 10) kc_174_7 rfl rfl ?_
    refine xi_iload_n (pc' := 11) (x := 0) kc_174_10 rfl rfl ?_
    refine xi_aload_n (pc' := 12) (x := 80) kc_174_11 rfl rfl ?_
    refine xi_getfield (pc' := 15) (v := .ref 83) kc_174_12 rfl rfl rfl (F 80 _ hl_80) rfl ?_
    refine xi_iload_n (pc' := 16) (x := 19) kc_174_15 rfl rfl ?_
    refine xi_iaload (pc' := 17) (v := 2) kc_174_16 rfl (F 83 _ hl_83) (by decide) rfl (xi_in (n := 24) (by decide) (by decide)) rfl ?_
    refine xi_iconst (pc' := 18) (v := 2) kc_174_17 rfl rfl ?_
    refine xi_cmf (pc' := 21) kc_174_18 rfl rfl ?_
    refine xi_iconst (pc' := 22) (v := 0) kc_174_21 rfl rfl ?_
    refine xi_goto (pc' := 26) kc_174_22 rfl ?_
    refine xi_iadd (pc' := 27) (v := 0) kc_174_26 rfl rfl ?_
    refine xi_istore_n (pc' := 28) (lv' := [(1, .int 0), (2, .int 19), (0, .ref 80)]) kc_174_27 rfl rfl (xm_lt ml_174 rfl) ?_
    refine xi_iinc (pc' := 31) (x := 19) (v := 20) (lv' := [(2, .int 20), (1, .int 0), (0, .ref 80)]) kc_174_28 rfl rfl rfl rfl (xm_lt ml_174 rfl) ?_
    refine xi_goto (pc' := 4) kc_174_31 rfl ?_
    refine xi_iload_n (pc' := 5) (x := 20) kc_174_4 rfl rfl ?_
    refine xi_bipush (pc' := 7) (v := 24) kc_174_5 rfl rfl ?_
    refine xi_cmf (pc' := 10) kc_174_7 rfl rfl ?_
    refine xi_iload_n (pc' := 11) (x := 0) kc_174_10 rfl rfl ?_
    refine xi_aload_n (pc' := 12) (x := 80) kc_174_11 rfl rfl ?_
    refine xi_getfield (pc' := 15) (v := .ref 83) kc_174_12 rfl rfl rfl (F 80 _ hl_80) rfl ?_
    refine xi_iload_n (pc' := 16) (x := 20) kc_174_15 rfl rfl ?_
    refine xi_iaload (pc' := 17) (v := 2) kc_174_16 rfl (F 83 _ hl_83) (by decide) rfl (xi_in (n := 24) (by decide) (by decide)) rfl ?_
    refine xi_iconst (pc' := 18) (v := 2) kc_174_17 rfl rfl ?_
    refine xi_cmf (pc' := 21) kc_174_18 rfl rfl ?_
    refine xi_iconst (pc' := 22) (v := 0) kc_174_21 rfl rfl ?_
    refine xi_goto (pc' := 26) kc_174_22 rfl ?_
    refine xi_iadd (pc' := 27) (v := 0) kc_174_26 rfl rfl ?_
    refine xi_istore_n (pc' := 28) (lv' := [(1, .int 0), (2, .int 20), (0, .ref 80)]) kc_174_27 rfl rfl (xm_lt ml_174 rfl) ?_
    refine xi_iinc (pc' := 31) (x := 20) (v := 21) (lv' := [(2, .int 21), (1, .int 0), (0, .ref 80)]) kc_174_28 rfl rfl rfl rfl (xm_lt ml_174 rfl) ?_
    refine xi_goto (pc' := 4) kc_174_31 rfl ?_
    refine xi_iload_n (pc' := 5) (x := 21) kc_174_4 rfl rfl ?_
    refine xi_bipush (pc' := 7) (v := 24) kc_174_5 rfl rfl ?_
    refine xi_cmf (pc' := 10) kc_174_7 rfl rfl ?_
    refine xi_iload_n (pc' := 11) (x := 0) kc_174_10 rfl rfl ?_
    refine xi_aload_n (pc' := 12) (x := 80) kc_174_11 rfl rfl ?_
    refine xi_getfield (pc' := 15) (v := .ref 83) kc_174_12 rfl rfl rfl (F 80 _ hl_80) rfl ?_
    refine xi_iload_n (pc' := 16) (x := 21) kc_174_15 rfl rfl ?_
    refine xi_iaload (pc' := 17) (v := 2) kc_174_16 rfl (F 83 _ hl_83) (by decide) rfl (xi_in (n := 24) (by decide) (by decide)) rfl ?_
    refine xi_iconst (pc' := 18) (v := 2) kc_174_17 rfl rfl ?_
    refine xi_cmf (pc' := 21) kc_174_18 rfl rfl ?_
    refine xi_iconst (pc' := 22) (v := 0) kc_174_21 rfl rfl ?_
    refine xi_goto (pc' := 26) kc_174_22 rfl ?_
    refine xi_iadd (pc' := 27) (v := 0) kc_174_26 rfl rfl ?_
    refine xi_istore_n (pc' := 28) (lv' := [(1, .int 0), (2, .int 21), (0, .ref 80)]) kc_174_27 rfl rfl (xm_lt ml_174 rfl) ?_
    refine xi_iinc (pc' := 31) (x := 21) (v := 22) (lv' := [(2, .int 22), (1, .int 0), (0, .ref 80)]) kc_174_28 rfl rfl rfl rfl (xm_lt ml_174 rfl) ?_
    refine xi_goto (pc' := 4) kc_174_31 rfl ?_
    refine xi_iload_n (pc' := 5) (x := 22) kc_174_4 rfl rfl ?_
    refine xi_bipush (pc' := 7) (v := 24) kc_174_5 rfl rfl ?_
    refine xi_cmf (pc' := 10) kc_174_7 rfl rfl ?_
    refine xi_iload_n (pc' := 11) (x := 0) kc_174_10 rfl rfl ?_
    refine xi_aload_n (pc' := 12) (x := 80) kc_174_11 rfl rfl ?_
    refine xi_getfield (pc' := 15) (v := .ref 83) kc_174_12 rfl rfl rfl (F 80 _ hl_80) rfl ?_
    refine xi_iload_n (pc' := 16) (x := 22) kc_174_15 rfl rfl ?_
    refine xi_iaload (pc' := 17) (v := 2) kc_174_16 rfl (F 83 _ hl_83) (by decide) rfl (xi_in (n := 24) (by decide) (by decide)) rfl ?_
    refine xi_iconst (pc' := 18) (v := 2) kc_174_17 rfl rfl ?_
    refine xi_cmf (pc' := 21) kc_174_18 rfl rfl ?_
    refine xi_iconst (pc' := 22) (v := 0) kc_174_21 rfl rfl ?_
    refine xi_goto (pc' := 26) kc_174_22 rfl ?_
    refine xi_iadd (pc' := 27) (v := 0) kc_174_26 rfl rfl ?_
    refine xi_istore_n (pc' := 28) (lv' := [(1, .int 0), (2, .int 22), (0, .ref 80)]) kc_174_27 rfl rfl (xm_lt ml_174 rfl) ?_
    refine xi_iinc (pc' := 31) (x := 22) (v := 23) (lv' := [(2, .int 23), (1, .int 0), (0, .ref 80)]) kc_174_28 rfl rfl rfl rfl (xm_lt ml_174 rfl) ?_
    refine xi_goto (pc' := 4) kc_174_31 rfl ?_
    refine xi_iload_n (pc' := 5) (x := 23) kc_174_4 rfl rfl ?_
    refine xi_bipush (pc' := 7) (v := 24) kc_174_5 rfl rfl ?_
    refine xi_cmf (pc' := 10) kc_174_7 rfl rfl ?_
    refine xi_iload_n (pc' := 11) (x := 0) kc_174_10 rfl rfl ?_
    refine xi_aload_n (pc' := 12) (x := 80) kc_174_11 rfl rfl ?_
    refine xi_getfield (pc' := 15) (v := .ref 83) kc_174_12 rfl rfl rfl (F 80 _ hl_80) rfl ?_
    refine xi_iload_n (pc' := 16) (x := 23) kc_174_15 rfl rfl ?_
    refine xi_iaload (pc' := 17) (v := 2) kc_174_16 rfl (F 83 _ hl_83) (by decide) rfl (xi_in (n := 24) (by decide) (by decide)) rfl ?_
    refine xi_iconst (pc' := 18) (v := 2) kc_174_17 rfl rfl ?_
    refine xi_cmf (pc' := 21) kc_174_18 rfl rfl ?_
    refine xi_iconst (pc' := 22) (v := 0) kc_174_21 rfl rfl ?_
    refine xi_goto (pc' := 26) kc_174_22 rfl ?_
    refine xi_iadd (pc' := 27) (v := 0) kc_174_26 rfl rfl ?_
    refine xi_istore_n (pc' := 28) (lv' := [(1, .int 0), (2, .int 23), (0, .ref 80)]) kc_174_27 rfl rfl (xm_lt ml_174 rfl) ?_
    refine xi_iinc (pc' := 31) (x := 23) (v := 24) (lv' := [(2, .int 24), (1, .int 0), (0, .ref 80)]) kc_174_28 rfl rfl rfl rfl (xm_lt ml_174 rfl) ?_
    refine xi_goto (pc' := 4) kc_174_31 rfl ?_
    refine xi_iload_n (pc' := 5) (x := 24) kc_174_4 rfl rfl ?_
    refine xi_bipush (pc' := 7) (v := 24) kc_174_5 rfl rfl ?_
    refine xi_cmt (pc' := 34) kc_174_7 rfl rfl ?_
    refine xi_iload_n (pc' := 35) (x := 0) kc_174_34 rfl rfl ?_
    refine xi_ireturn kc_174_35 mr_174 rfl ?_
    show xw J ov 99 173 (23, [(0, .ref 0), (1, .int a1)], [.int 0], h0) _
    refine xi_bipush (pc' := 25) (v := 16) kc_173_23 rfl rfl ?_
    refine xi_cmt (pc' := 35) kc_173_25 rfl rfl ?_
    refine xi_aload_n (pc' := 36) (x := 0) kc_173_35 rfl rfl ?_
    refine xi_getfield (pc' := 39) (v := .ref 80) kc_173_36 rfl rfl rfl (F 0 _ hl_0) rfl ?_
    refine xi_iload_n (pc' := 40) (x := a1) kc_173_39 rfl rfl ?_
    refine xi_iff (pc' := 43) kc_173_40 rfl (xc_ne_f (X := a1.toInt) (Y := 0) rfl (by decide) (by omega)) ?_
    refine xi_aload_n (pc' := 44) (x := 0) kc_173_43 rfl rfl ?_
    refine xi_getfield (pc' := 47) (v := .ref 80) kc_173_44 rfl rfl rfl (F 0 _ hl_0) rfl ?_
    refine xi_virtual (mj := 171) (as := []) (st1 := [.ref 80]) (lv0 := [(0, .ref 80)]) kc_173_47 rfl rfl rfl rfl rfl (F 80 _ hl_80) (Nat.le_of_ble_eq_true rfl) (hJ _ _ _ _ (by decide)) (xm_le ml_171 rfl) rfl ?_
    refine mj_class hJ (F 80 _ hl_80) (F 83 _ hl_83) ?_
    show xw J ov 99 173 (50, [(0, .ref 0), (1, .int a1)], [.int 0, .ref 80], h0) _
    refine xi_goto (pc' := 54) kc_173_50 rfl ?_
    refine xi_virtual (mj := 175) (as := [.int 0]) (st1 := []) (lv0 := [(0, .ref 80), (1, .int 0)]) kc_173_54 rfl rfl rfl rfl rfl (F 80 _ hl_80) (Nat.le_of_ble_eq_true rfl) (hJ _ _ _ _ (by decide)) (xm_le ml_175 rfl) rfl ?_
    refine xi_iconst (pc' := 1) (v := 0) kc_175_0 rfl rfl ?_
    refine xi_istore_n (pc' := 2) (lv' := [(2, .int 0), (0, .ref 80), (1, .int 0)]) kc_175_1 rfl rfl (xm_lt ml_175 rfl) ?_
    refine xi_iconst (pc' := 3) (v := 0) kc_175_2 rfl rfl ?_
    refine xi_istore_n (pc' := 4) (lv' := [(3, .int 0), (2, .int 0), (0, .ref 80), (1, .int 0)]) kc_175_3 rfl rfl (xm_lt ml_175 rfl) ?_
    refine xi_iconst (pc' := 5) (v := 0) kc_175_4 rfl rfl ?_
    refine xi_istore (pc' := 7) (lv' := [(4, .int 0), (3, .int 0), (2, .int 0), (0, .ref 80), (1, .int 0)]) kc_175_5 rfl rfl (xm_lt ml_175 rfl) ?_
    refine xi_iload (pc' := 9) (x := 0) kc_175_7 rfl rfl ?_
    refine xi_bipush (pc' := 11) (v := 24) kc_175_9 rfl rfl ?_
    refine xi_cmf (pc' := 14) kc_175_11 rfl rfl ?_
    refine xi_aload_n (pc' := 15) (x := 80) kc_175_14 rfl rfl ?_
    refine xi_getfield (pc' := 18) (v := .ref 83) kc_175_15 rfl rfl rfl (F 80 _ hl_80) rfl ?_
    refine xi_iload (pc' := 20) (x := 0) kc_175_18 rfl rfl ?_
    refine xi_iaload (pc' := 21) (v := 2) kc_175_20 rfl (F 83 _ hl_83) (by decide) rfl (xi_in (n := 24) (by decide) (by decide)) rfl ?_
    refine xi_iconst (pc' := 22) (v := 2) kc_175_21 rfl rfl ?_
    refine xi_cmt (pc' := 56) kc_175_22 rfl rfl ?_
    refine xi_iinc (pc' := 59) (x := 0) (v := 1) (lv' := [(4, .int 1), (3, .int 0), (2, .int 0), (0, .ref 80), (1, .int 0)]) kc_175_56 rfl rfl rfl rfl (xm_lt ml_175 rfl) ?_
    refine xi_goto (pc' := 7) kc_175_59 rfl ?_
    refine xi_iload (pc' := 9) (x := 1) kc_175_7 rfl rfl ?_
    refine xi_bipush (pc' := 11) (v := 24) kc_175_9 rfl rfl ?_
    refine xi_cmf (pc' := 14) kc_175_11 rfl rfl ?_
    refine xi_aload_n (pc' := 15) (x := 80) kc_175_14 rfl rfl ?_
    refine xi_getfield (pc' := 18) (v := .ref 83) kc_175_15 rfl rfl rfl (F 80 _ hl_80) rfl ?_
    refine xi_iload (pc' := 20) (x := 1) kc_175_18 rfl rfl ?_
    refine xi_iaload (pc' := 21) (v := 2) kc_175_20 rfl (F 83 _ hl_83) (by decide) rfl (xi_in (n := 24) (by decide) (by decide)) rfl ?_
    refine xi_iconst (pc' := 22) (v := 2) kc_175_21 rfl rfl ?_
    refine xi_cmt (pc' := 56) kc_175_22 rfl rfl ?_
    refine xi_iinc (pc' := 59) (x := 1) (v := 2) (lv' := [(4, .int 2), (3, .int 0), (2, .int 0), (0, .ref 80), (1, .int 0)]) kc_175_56 rfl rfl rfl rfl (xm_lt ml_175 rfl) ?_
    refine xi_goto (pc' := 7) kc_175_59 rfl ?_
    refine xi_iload (pc' := 9) (x := 2) kc_175_7 rfl rfl ?_
    refine xi_bipush (pc' := 11) (v := 24) kc_175_9 rfl rfl ?_
    refine xi_cmf (pc' := 14) kc_175_11 rfl rfl ?_
    refine xi_aload_n (pc' := 15) (x := 80) kc_175_14 rfl rfl ?_
    refine xi_getfield (pc' := 18) (v := .ref 83) kc_175_15 rfl rfl rfl (F 80 _ hl_80) rfl ?_
    refine xi_iload (pc' := 20) (x := 2) kc_175_18 rfl rfl ?_
    refine xi_iaload (pc' := 21) (v := 2) kc_175_20 rfl (F 83 _ hl_83) (by decide) rfl (xi_in (n := 24) (by decide) (by decide)) rfl ?_
    refine xi_iconst (pc' := 22) (v := 2) kc_175_21 rfl rfl ?_
    refine xi_cmt (pc' := 56) kc_175_22 rfl rfl ?_
    refine xi_iinc (pc' := 59) (x := 2) (v := 3) (lv' := [(4, .int 3), (3, .int 0), (2, .int 0), (0, .ref 80), (1, .int 0)]) kc_175_56 rfl rfl rfl rfl (xm_lt ml_175 rfl) ?_
    refine xi_goto (pc' := 7) kc_175_59 rfl ?_
    refine xi_iload (pc' := 9) (x := 3) kc_175_7 rfl rfl ?_
    refine xi_bipush (pc' := 11) (v := 24) kc_175_9 rfl rfl ?_
    refine xi_cmf (pc' := 14) kc_175_11 rfl rfl ?_
    refine xi_aload_n (pc' := 15) (x := 80) kc_175_14 rfl rfl ?_
    refine xi_getfield (pc' := 18) (v := .ref 83) kc_175_15 rfl rfl rfl (F 80 _ hl_80) rfl ?_
    refine xi_iload (pc' := 20) (x := 3) kc_175_18 rfl rfl ?_
    refine xi_iaload (pc' := 21) (v := 2) kc_175_20 rfl (F 83 _ hl_83) (by decide) rfl (xi_in (n := 24) (by decide) (by decide)) rfl ?_
    refine xi_iconst (pc' := 22) (v := 2) kc_175_21 rfl rfl ?_
    refine xi_cmt (pc' := 56) kc_175_22 rfl rfl ?_
    refine xi_iinc (pc' := 59) (x := 3) (v := 4) (lv' := [(4, .int 4), (3, .int 0), (2, .int 0), (0, .ref 80), (1, .int 0)]) kc_175_56 rfl rfl rfl rfl (xm_lt ml_175 rfl) ?_
    refine xi_goto (pc' := 7) kc_175_59 rfl ?_
    refine xi_iload (pc' := 9) (x := 4) kc_175_7 rfl rfl ?_
    refine xi_bipush (pc' := 11) (v := 24) kc_175_9 rfl rfl ?_
    refine xi_cmf (pc' := 14) kc_175_11 rfl rfl ?_
    refine xi_aload_n (pc' := 15) (x := 80) kc_175_14 rfl rfl ?_
    refine xi_getfield (pc' := 18) (v := .ref 83) kc_175_15 rfl rfl rfl (F 80 _ hl_80) rfl ?_
    refine xi_iload (pc' := 20) (x := 4) kc_175_18 rfl rfl ?_
    refine xi_iaload (pc' := 21) (v := 2) kc_175_20 rfl (F 83 _ hl_83) (by decide) rfl (xi_in (n := 24) (by decide) (by decide)) rfl ?_
    refine xi_iconst (pc' := 22) (v := 2) kc_175_21 rfl rfl ?_
    refine xi_cmt (pc' := 56) kc_175_22 rfl rfl ?_
    refine xi_iinc (pc' := 59) (x := 4) (v := 5) (lv' := [(4, .int 5), (3, .int 0), (2, .int 0), (0, .ref 80), (1, .int 0)]) kc_175_56 rfl rfl rfl rfl (xm_lt ml_175 rfl) ?_
    refine xi_goto (pc' := 7) kc_175_59 rfl ?_
    refine xi_iload (pc' := 9) (x := 5) kc_175_7 rfl rfl ?_
    refine xi_bipush (pc' := 11) (v := 24) kc_175_9 rfl rfl ?_
    refine xi_cmf (pc' := 14) kc_175_11 rfl rfl ?_
    refine xi_aload_n (pc' := 15) (x := 80) kc_175_14 rfl rfl ?_
    refine xi_getfield (pc' := 18) (v := .ref 83) kc_175_15 rfl rfl rfl (F 80 _ hl_80) rfl ?_
    refine xi_iload (pc' := 20) (x := 5) kc_175_18 rfl rfl ?_
    refine xi_iaload (pc' := 21) (v := 2) kc_175_20 rfl (F 83 _ hl_83) (by decide) rfl (xi_in (n := 24) (by decide) (by decide)) rfl ?_
    refine xi_iconst (pc' := 22) (v := 2) kc_175_21 rfl rfl ?_
    refine xi_cmt (pc' := 56) kc_175_22 rfl rfl ?_
    refine xi_iinc (pc' := 59) (x := 5) (v := 6) (lv' := [(4, .int 6), (3, .int 0), (2, .int 0), (0, .ref 80), (1, .int 0)]) kc_175_56 rfl rfl rfl rfl (xm_lt ml_175 rfl) ?_
    refine xi_goto (pc' := 7) kc_175_59 rfl ?_
    refine xi_iload (pc' := 9) (x := 6) kc_175_7 rfl rfl ?_
    refine xi_bipush (pc' := 11) (v := 24) kc_175_9 rfl rfl ?_
    refine xi_cmf (pc' := 14) kc_175_11 rfl rfl ?_
    refine xi_aload_n (pc' := 15) (x := 80) kc_175_14 rfl rfl ?_
    refine xi_getfield (pc' := 18) (v := .ref 83) kc_175_15 rfl rfl rfl (F 80 _ hl_80) rfl ?_
    refine xi_iload (pc' := 20) (x := 6) kc_175_18 rfl rfl ?_
    refine xi_iaload (pc' := 21) (v := 2) kc_175_20 rfl (F 83 _ hl_83) (by decide) rfl (xi_in (n := 24) (by decide) (by decide)) rfl ?_
    refine xi_iconst (pc' := 22) (v := 2) kc_175_21 rfl rfl ?_
    refine xi_cmt (pc' := 56) kc_175_22 rfl rfl ?_
    refine xi_iinc (pc' := 59) (x := 6) (v := 7) (lv' := [(4, .int 7), (3, .int 0), (2, .int 0), (0, .ref 80), (1, .int 0)]) kc_175_56 rfl rfl rfl rfl (xm_lt ml_175 rfl) ?_
    refine xi_goto (pc' := 7) kc_175_59 rfl ?_
    refine xi_iload (pc' := 9) (x := 7) kc_175_7 rfl rfl ?_
    refine xi_bipush (pc' := 11) (v := 24) kc_175_9 rfl rfl ?_
    refine xi_cmf (pc' := 14) kc_175_11 rfl rfl ?_
    refine xi_aload_n (pc' := 15) (x := 80) kc_175_14 rfl rfl ?_
    refine xi_getfield (pc' := 18) (v := .ref 83) kc_175_15 rfl rfl rfl (F 80 _ hl_80) rfl ?_
    refine xi_iload (pc' := 20) (x := 7) kc_175_18 rfl rfl ?_
    refine xi_iaload (pc' := 21) (v := 2) kc_175_20 rfl (F 83 _ hl_83) (by decide) rfl (xi_in (n := 24) (by decide) (by decide)) rfl ?_
    refine xi_iconst (pc' := 22) (v := 2) kc_175_21 rfl rfl ?_
    refine xi_cmt (pc' := 56) kc_175_22 rfl rfl ?_
    refine xi_iinc (pc' := 59) (x := 7) (v := 8) (lv' := [(4, .int 8), (3, .int 0), (2, .int 0), (0, .ref 80), (1, .int 0)]) kc_175_56 rfl rfl rfl rfl (xm_lt ml_175 rfl) ?_
    refine xi_goto (pc' := 7) kc_175_59 rfl ?_
    refine xi_iload (pc' := 9) (x := 8) kc_175_7 rfl rfl ?_
    refine xi_bipush (pc' := 11) (v := 24) kc_175_9 rfl rfl ?_
    refine xi_cmf (pc' := 14) kc_175_11 rfl rfl ?_
    refine xi_aload_n (pc' := 15) (x := 80) kc_175_14 rfl rfl ?_
    refine xi_getfield (pc' := 18) (v := .ref 83) kc_175_15 rfl rfl rfl (F 80 _ hl_80) rfl ?_
    refine xi_iload (pc' := 20) (x := 8) kc_175_18 rfl rfl ?_
    refine xi_iaload (pc' := 21) (v := 2) kc_175_20 rfl (F 83 _ hl_83) (by decide) rfl (xi_in (n := 24) (by decide) (by decide)) rfl ?_
    refine xi_iconst (pc' := 22) (v := 2) kc_175_21 rfl rfl ?_
    refine xi_cmt (pc' := 56) kc_175_22 rfl rfl ?_
    refine xi_iinc (pc' := 59) (x := 8) (v := 9) (lv' := [(4, .int 9), (3, .int 0), (2, .int 0), (0, .ref 80), (1, .int 0)]) kc_175_56 rfl rfl rfl rfl (xm_lt ml_175 rfl) ?_
    refine xi_goto (pc' := 7) kc_175_59 rfl ?_
    refine xi_iload (pc' := 9) (x := 9) kc_175_7 rfl rfl ?_
    refine xi_bipush (pc' := 11) (v := 24) kc_175_9 rfl rfl ?_
    refine xi_cmf (pc' := 14) kc_175_11 rfl rfl ?_
    refine xi_aload_n (pc' := 15) (x := 80) kc_175_14 rfl rfl ?_
    refine xi_getfield (pc' := 18) (v := .ref 83) kc_175_15 rfl rfl rfl (F 80 _ hl_80) rfl ?_
    refine xi_iload (pc' := 20) (x := 9) kc_175_18 rfl rfl ?_
    refine xi_iaload (pc' := 21) (v := 2) kc_175_20 rfl (F 83 _ hl_83) (by decide) rfl (xi_in (n := 24) (by decide) (by decide)) rfl ?_
    refine xi_iconst (pc' := 22) (v := 2) kc_175_21 rfl rfl ?_
    refine xi_cmt (pc' := 56) kc_175_22 rfl rfl ?_
    refine xi_iinc (pc' := 59) (x := 9) (v := 10) (lv' := [(4, .int 10), (3, .int 0), (2, .int 0), (0, .ref 80), (1, .int 0)]) kc_175_56 rfl rfl rfl rfl (xm_lt ml_175 rfl) ?_
    refine xi_goto (pc' := 7) kc_175_59 rfl ?_
    refine xi_iload (pc' := 9) (x := 10) kc_175_7 rfl rfl ?_
    refine xi_bipush (pc' := 11) (v := 24) kc_175_9 rfl rfl ?_
    refine xi_cmf (pc' := 14) kc_175_11 rfl rfl ?_
    refine xi_aload_n (pc' := 15) (x := 80) kc_175_14 rfl rfl ?_
    refine xi_getfield (pc' := 18) (v := .ref 83) kc_175_15 rfl rfl rfl (F 80 _ hl_80) rfl ?_
    refine xi_iload (pc' := 20) (x := 10) kc_175_18 rfl rfl ?_
    refine xi_iaload (pc' := 21) (v := 2) kc_175_20 rfl (F 83 _ hl_83) (by decide) rfl (xi_in (n := 24) (by decide) (by decide)) rfl ?_
    refine xi_iconst (pc' := 22) (v := 2) kc_175_21 rfl rfl ?_
    refine xi_cmt (pc' := 56) kc_175_22 rfl rfl ?_
    refine xi_iinc (pc' := 59) (x := 10) (v := 11) (lv' := [(4, .int 11), (3, .int 0), (2, .int 0), (0, .ref 80), (1, .int 0)]) kc_175_56 rfl rfl rfl rfl (xm_lt ml_175 rfl) ?_
    refine xi_goto (pc' := 7) kc_175_59 rfl ?_
    refine xi_iload (pc' := 9) (x := 11) kc_175_7 rfl rfl ?_
    refine xi_bipush (pc' := 11) (v := 24) kc_175_9 rfl rfl ?_
    refine xi_cmf (pc' := 14) kc_175_11 rfl rfl ?_
    refine xi_aload_n (pc' := 15) (x := 80) kc_175_14 rfl rfl ?_
    refine xi_getfield (pc' := 18) (v := .ref 83) kc_175_15 rfl rfl rfl (F 80 _ hl_80) rfl ?_
    refine xi_iload (pc' := 20) (x := 11) kc_175_18 rfl rfl ?_
    refine xi_iaload (pc' := 21) (v := 2) kc_175_20 rfl (F 83 _ hl_83) (by decide) rfl (xi_in (n := 24) (by decide) (by decide)) rfl ?_
    refine xi_iconst (pc' := 22) (v := 2) kc_175_21 rfl rfl ?_
    refine xi_cmt (pc' := 56) kc_175_22 rfl rfl ?_
    refine xi_iinc (pc' := 59) (x := 11) (v := 12) (lv' := [(4, .int 12), (3, .int 0), (2, .int 0), (0, .ref 80), (1, .int 0)]) kc_175_56 rfl rfl rfl rfl (xm_lt ml_175 rfl) ?_
    refine xi_goto (pc' := 7) kc_175_59 rfl ?_
    refine xi_iload (pc' := 9) (x := 12) kc_175_7 rfl rfl ?_
    refine xi_bipush (pc' := 11) (v := 24) kc_175_9 rfl rfl ?_
    refine xi_cmf (pc' := 14) kc_175_11 rfl rfl ?_
    refine xi_aload_n (pc' := 15) (x := 80) kc_175_14 rfl rfl ?_
    refine xi_getfield (pc' := 18) (v := .ref 83) kc_175_15 rfl rfl rfl (F 80 _ hl_80) rfl ?_
    refine xi_iload (pc' := 20) (x := 12) kc_175_18 rfl rfl ?_
    refine xi_iaload (pc' := 21) (v := 2) kc_175_20 rfl (F 83 _ hl_83) (by decide) rfl (xi_in (n := 24) (by decide) (by decide)) rfl ?_
    refine xi_iconst (pc' := 22) (v := 2) kc_175_21 rfl rfl ?_
    refine xi_cmt (pc' := 56) kc_175_22 rfl rfl ?_
    refine xi_iinc (pc' := 59) (x := 12) (v := 13) (lv' := [(4, .int 13), (3, .int 0), (2, .int 0), (0, .ref 80), (1, .int 0)]) kc_175_56 rfl rfl rfl rfl (xm_lt ml_175 rfl) ?_
    refine xi_goto (pc' := 7) kc_175_59 rfl ?_
    refine xi_iload (pc' := 9) (x := 13) kc_175_7 rfl rfl ?_
    refine xi_bipush (pc' := 11) (v := 24) kc_175_9 rfl rfl ?_
    refine xi_cmf (pc' := 14) kc_175_11 rfl rfl ?_
    refine xi_aload_n (pc' := 15) (x := 80) kc_175_14 rfl rfl ?_
    refine xi_getfield (pc' := 18) (v := .ref 83) kc_175_15 rfl rfl rfl (F 80 _ hl_80) rfl ?_
    refine xi_iload (pc' := 20) (x := 13) kc_175_18 rfl rfl ?_
    refine xi_iaload (pc' := 21) (v := 2) kc_175_20 rfl (F 83 _ hl_83) (by decide) rfl (xi_in (n := 24) (by decide) (by decide)) rfl ?_
    refine xi_iconst (pc' := 22) (v := 2) kc_175_21 rfl rfl ?_
    refine xi_cmt (pc' := 56) kc_175_22 rfl rfl ?_
    refine xi_iinc (pc' := 59) (x := 13) (v := 14) (lv' := [(4, .int 14), (3, .int 0), (2, .int 0), (0, .ref 80), (1, .int 0)]) kc_175_56 rfl rfl rfl rfl (xm_lt ml_175 rfl) ?_
    refine xi_goto (pc' := 7) kc_175_59 rfl ?_
    refine xi_iload (pc' := 9) (x := 14) kc_175_7 rfl rfl ?_
    refine xi_bipush (pc' := 11) (v := 24) kc_175_9 rfl rfl ?_
    refine xi_cmf (pc' := 14) kc_175_11 rfl rfl ?_
    refine xi_aload_n (pc' := 15) (x := 80) kc_175_14 rfl rfl ?_
    refine xi_getfield (pc' := 18) (v := .ref 83) kc_175_15 rfl rfl rfl (F 80 _ hl_80) rfl ?_
    refine xi_iload (pc' := 20) (x := 14) kc_175_18 rfl rfl ?_
    refine xi_iaload (pc' := 21) (v := 2) kc_175_20 rfl (F 83 _ hl_83) (by decide) rfl (xi_in (n := 24) (by decide) (by decide)) rfl ?_
    refine xi_iconst (pc' := 22) (v := 2) kc_175_21 rfl rfl ?_
    refine xi_cmt (pc' := 56) kc_175_22 rfl rfl ?_
    refine xi_iinc (pc' := 59) (x := 14) (v := 15) (lv' := [(4, .int 15), (3, .int 0), (2, .int 0), (0, .ref 80), (1, .int 0)]) kc_175_56 rfl rfl rfl rfl (xm_lt ml_175 rfl) ?_
    refine xi_goto (pc' := 7) kc_175_59 rfl ?_
    refine xi_iload (pc' := 9) (x := 15) kc_175_7 rfl rfl ?_
    refine xi_bipush (pc' := 11) (v := 24) kc_175_9 rfl rfl ?_
    refine xi_cmf (pc' := 14) kc_175_11 rfl rfl ?_
    refine xi_aload_n (pc' := 15) (x := 80) kc_175_14 rfl rfl ?_
    refine xi_getfield (pc' := 18) (v := .ref 83) kc_175_15 rfl rfl rfl (F 80 _ hl_80) rfl ?_
    refine xi_iload (pc' := 20) (x := 15) kc_175_18 rfl rfl ?_
    refine xi_iaload (pc' := 21) (v := 2) kc_175_20 rfl (F 83 _ hl_83) (by decide) rfl (xi_in (n := 24) (by decide) (by decide)) rfl ?_
    refine xi_iconst (pc' := 22) (v := 2) kc_175_21 rfl rfl ?_
    refine xi_cmt (pc' := 56) kc_175_22 rfl rfl ?_
    refine xi_iinc (pc' := 59) (x := 15) (v := 16) (lv' := [(4, .int 16), (3, .int 0), (2, .int 0), (0, .ref 80), (1, .int 0)]) kc_175_56 rfl rfl rfl rfl (xm_lt ml_175 rfl) ?_
    refine xi_goto (pc' := 7) kc_175_59 rfl ?_
    refine xi_iload (pc' := 9) (x := 16) kc_175_7 rfl rfl ?_
    refine xi_bipush (pc' := 11) (v := 24) kc_175_9 rfl rfl ?_
    refine xi_cmf (pc' := 14) kc_175_11 rfl rfl ?_
    refine xi_aload_n (pc' := 15) (x := 80) kc_175_14 rfl rfl ?_
    refine xi_getfield (pc' := 18) (v := .ref 83) kc_175_15 rfl rfl rfl (F 80 _ hl_80) rfl ?_
    refine xi_iload (pc' := 20) (x := 16) kc_175_18 rfl rfl ?_
    refine xi_iaload (pc' := 21) (v := 2) kc_175_20 rfl (F 83 _ hl_83) (by decide) rfl (xi_in (n := 24) (by decide) (by decide)) rfl ?_
    refine xi_iconst (pc' := 22) (v := 2) kc_175_21 rfl rfl ?_
    refine xi_cmt (pc' := 56) kc_175_22 rfl rfl ?_
    refine xi_iinc (pc' := 59) (x := 16) (v := 17) (lv' := [(4, .int 17), (3, .int 0), (2, .int 0), (0, .ref 80), (1, .int 0)]) kc_175_56 rfl rfl rfl rfl (xm_lt ml_175 rfl) ?_
    refine xi_goto (pc' := 7) kc_175_59 rfl ?_
    refine xi_iload (pc' := 9) (x := 17) kc_175_7 rfl rfl ?_
    refine xi_bipush (pc' := 11) (v := 24) kc_175_9 rfl rfl ?_
    refine xi_cmf (pc' := 14) kc_175_11 rfl rfl ?_
    refine xi_aload_n (pc' := 15) (x := 80) kc_175_14 rfl rfl ?_
    refine xi_getfield (pc' := 18) (v := .ref 83) kc_175_15 rfl rfl rfl (F 80 _ hl_80) rfl ?_
    refine xi_iload (pc' := 20) (x := 17) kc_175_18 rfl rfl ?_
    refine xi_iaload (pc' := 21) (v := 2) kc_175_20 rfl (F 83 _ hl_83) (by decide) rfl (xi_in (n := 24) (by decide) (by decide)) rfl ?_
    refine xi_iconst (pc' := 22) (v := 2) kc_175_21 rfl rfl ?_
    refine xi_cmt (pc' := 56) kc_175_22 rfl rfl ?_
    refine xi_iinc (pc' := 59) (x := 17) (v := 18) (lv' := [(4, .int 18), (3, .int 0), (2, .int 0), (0, .ref 80), (1, .int 0)]) kc_175_56 rfl rfl rfl rfl (xm_lt ml_175 rfl) ?_
    refine xi_goto (pc' := 7) kc_175_59 rfl ?_
    refine xi_iload (pc' := 9) (x := 18) kc_175_7 rfl rfl ?_
    refine xi_bipush (pc' := 11) (v := 24) kc_175_9 rfl rfl ?_
    refine xi_cmf (pc' := 14) kc_175_11 rfl rfl ?_
    refine xi_aload_n (pc' := 15) (x := 80) kc_175_14 rfl rfl ?_
    refine xi_getfield (pc' := 18) (v := .ref 83) kc_175_15 rfl rfl rfl (F 80 _ hl_80) rfl ?_
    refine xi_iload (pc' := 20) (x := 18) kc_175_18 rfl rfl ?_
    refine xi_iaload (pc' := 21) (v := 2) kc_175_20 rfl (F 83 _ hl_83) (by decide) rfl (xi_in (n := 24) (by decide) (by decide)) rfl ?_
    refine xi_iconst (pc' := 22) (v := 2) kc_175_21 rfl rfl ?_
    refine xi_cmt (pc' := 56) kc_175_22 rfl rfl ?_
    refine xi_iinc (pc' := 59) (x := 18) (v := 19) (lv' := [(4, .int 19), (3, .int 0), (2, .int 0), (0, .ref 80), (1, .int 0)]) kc_175_56 rfl rfl rfl rfl (xm_lt ml_175 rfl) ?_
    refine xi_goto (pc' := 7) kc_175_59 rfl ?_
    refine xi_iload (pc' := 9) (x := 19) kc_175_7 rfl rfl ?_
    refine xi_bipush (pc' := 11) (v := 24) kc_175_9 rfl rfl ?_
    refine xi_cmf (pc' := 14) kc_175_11 rfl rfl ?_
    refine xi_aload_n (pc' := 15) (x := 80) kc_175_14 rfl rfl ?_
    refine xi_getfield (pc' := 18) (v := .ref 83) kc_175_15 rfl rfl rfl (F 80 _ hl_80) rfl ?_
    refine xi_iload (pc' := 20) (x := 19) kc_175_18 rfl rfl ?_
    refine xi_iaload (pc' := 21) (v := 2) kc_175_20 rfl (F 83 _ hl_83) (by decide) rfl (xi_in (n := 24) (by decide) (by decide)) rfl ?_
    refine xi_iconst (pc' := 22) (v := 2) kc_175_21 rfl rfl ?_
    refine xi_cmt (pc' := 56) kc_175_22 rfl rfl ?_
    refine xi_iinc (pc' := 59) (x := 19) (v := 20) (lv' := [(4, .int 20), (3, .int 0), (2, .int 0), (0, .ref 80), (1, .int 0)]) kc_175_56 rfl rfl rfl rfl (xm_lt ml_175 rfl) ?_
    refine xi_goto (pc' := 7) kc_175_59 rfl ?_
    refine xi_iload (pc' := 9) (x := 20) kc_175_7 rfl rfl ?_
    refine xi_bipush (pc' := 11) (v := 24) kc_175_9 rfl rfl ?_
    refine xi_cmf (pc' := 14) kc_175_11 rfl rfl ?_
    refine xi_aload_n (pc' := 15) (x := 80) kc_175_14 rfl rfl ?_
    refine xi_getfield (pc' := 18) (v := .ref 83) kc_175_15 rfl rfl rfl (F 80 _ hl_80) rfl ?_
    refine xi_iload (pc' := 20) (x := 20) kc_175_18 rfl rfl ?_
    refine xi_iaload (pc' := 21) (v := 2) kc_175_20 rfl (F 83 _ hl_83) (by decide) rfl (xi_in (n := 24) (by decide) (by decide)) rfl ?_
    refine xi_iconst (pc' := 22) (v := 2) kc_175_21 rfl rfl ?_
    refine xi_cmt (pc' := 56) kc_175_22 rfl rfl ?_
    refine xi_iinc (pc' := 59) (x := 20) (v := 21) (lv' := [(4, .int 21), (3, .int 0), (2, .int 0), (0, .ref 80), (1, .int 0)]) kc_175_56 rfl rfl rfl rfl (xm_lt ml_175 rfl) ?_
    refine xi_goto (pc' := 7) kc_175_59 rfl ?_
    refine xi_iload (pc' := 9) (x := 21) kc_175_7 rfl rfl ?_
    refine xi_bipush (pc' := 11) (v := 24) kc_175_9 rfl rfl ?_
    refine xi_cmf (pc' := 14) kc_175_11 rfl rfl ?_
    refine xi_aload_n (pc' := 15) (x := 80) kc_175_14 rfl rfl ?_
    refine xi_getfield (pc' := 18) (v := .ref 83) kc_175_15 rfl rfl rfl (F 80 _ hl_80) rfl ?_
    refine xi_iload (pc' := 20) (x := 21) kc_175_18 rfl rfl ?_
    refine xi_iaload (pc' := 21) (v := 2) kc_175_20 rfl (F 83 _ hl_83) (by decide) rfl (xi_in (n := 24) (by decide) (by decide)) rfl ?_
    refine xi_iconst (pc' := 22) (v := 2) kc_175_21 rfl rfl ?_
    refine xi_cmt (pc' := 56) kc_175_22 rfl rfl ?_
    refine xi_iinc (pc' := 59) (x := 21) (v := 22) (lv' := [(4, .int 22), (3, .int 0), (2, .int 0), (0, .ref 80), (1, .int 0)]) kc_175_56 rfl rfl rfl rfl (xm_lt ml_175 rfl) ?_
    refine xi_goto (pc' := 7) kc_175_59 rfl ?_
    refine xi_iload (pc' := 9) (x := 22) kc_175_7 rfl rfl ?_
    refine xi_bipush (pc' := 11) (v := 24) kc_175_9 rfl rfl ?_
    refine xi_cmf (pc' := 14) kc_175_11 rfl rfl ?_
    refine xi_aload_n (pc' := 15) (x := 80) kc_175_14 rfl rfl ?_
    refine xi_getfield (pc' := 18) (v := .ref 83) kc_175_15 rfl rfl rfl (F 80 _ hl_80) rfl ?_
    refine xi_iload (pc' := 20) (x := 22) kc_175_18 rfl rfl ?_
    refine xi_iaload (pc' := 21) (v := 2) kc_175_20 rfl (F 83 _ hl_83) (by decide) rfl (xi_in (n := 24) (by decide) (by decide)) rfl ?_
    refine xi_iconst (pc' := 22) (v := 2) kc_175_21 rfl rfl ?_
    refine xi_cmt (pc' := 56) kc_175_22 rfl rfl ?_
    refine xi_iinc (pc' := 59) (x := 22) (v := 23) (lv' := [(4, .int 23), (3, .int 0), (2, .int 0), (0, .ref 80), (1, .int 0)]) kc_175_56 rfl rfl rfl rfl (xm_lt ml_175 rfl) ?_
    refine xi_goto (pc' := 7) kc_175_59 rfl ?_
    refine xi_iload (pc' := 9) (x := 23) kc_175_7 rfl rfl ?_
    refine xi_bipush (pc' := 11) (v := 24) kc_175_9 rfl rfl ?_
    refine xi_cmf (pc' := 14) kc_175_11 rfl rfl ?_
    refine xi_aload_n (pc' := 15) (x := 80) kc_175_14 rfl rfl ?_
    refine xi_getfield (pc' := 18) (v := .ref 83) kc_175_15 rfl rfl rfl (F 80 _ hl_80) rfl ?_
    refine xi_iload (pc' := 20) (x := 23) kc_175_18 rfl rfl ?_
    refine xi_iaload (pc' := 21) (v := 2) kc_175_20 rfl (F 83 _ hl_83) (by decide) rfl (xi_in (n := 24) (by decide) (by decide)) rfl ?_
    refine xi_iconst (pc' := 22) (v := 2) kc_175_21 rfl rfl ?_
    refine xi_cmt (pc' := 56) kc_175_22 rfl rfl ?_
    refine xi_iinc (pc' := 59) (x := 23) (v := 24) (lv' := [(4, .int 24), (3, .int 0), (2, .int 0), (0, .ref 80), (1, .int 0)]) kc_175_56 rfl rfl rfl rfl (xm_lt ml_175 rfl) ?_
    refine xi_goto (pc' := 7) kc_175_59 rfl ?_
    refine xi_iload (pc' := 9) (x := 24) kc_175_7 rfl rfl ?_
    refine xi_bipush (pc' := 11) (v := 24) kc_175_9 rfl rfl ?_
    refine xi_cmt (pc' := 62) kc_175_11 rfl rfl ?_
    refine xi_aload_n (pc' := 63) (x := 80) kc_175_62 rfl rfl ?_
    refine xi_iconst (pc' := 64) (v := 0) kc_175_63 rfl rfl ?_
    refine xi_iload_n (pc' := 65) (x := 0) kc_175_64 rfl rfl ?_
    refine xi_iload_n (pc' := 66) (x := 0) kc_175_65 rfl rfl ?_
    refine xi_iconst (pc' := 67) (v := 0) kc_175_66 rfl rfl ?_
    refine xi_iload_n (pc' := 68) (x := 0) kc_175_67 rfl rfl ?_
    refine xi_virtual (mj := 177) (as := [.int 0, .int 0, .int 0, .int 0, .int 0]) (st1 := []) (lv0 := [(0, .ref 80), (1, .int 0), (2, .int 0), (3, .int 0), (4, .int 0), (5, .int 0)]) kc_175_68 rfl rfl rfl rfl rfl (F 80 _ hl_80) (Nat.le_of_ble_eq_true rfl) (hJ _ _ _ _ (by decide)) (xm_le ml_177 rfl) rfl ?_
    refine xi_iload_n (pc' := 1) (x := 0) kc_177_0 rfl rfl ?_
    refine xi_iff (pc' := 4) kc_177_1 rfl rfl ?_
    refine xi_iload (pc' := 6) (x := 0) kc_177_4 rfl rfl ?_
    refine xi_iff (pc' := 9) kc_177_6 rfl rfl ?_
    refine xi_iconst (pc' := 10) (v := 1) kc_177_9 rfl rfl ?_
    refine xi_goto (pc' := 14) kc_177_10 rfl ?_
    refine xi_ireturn kc_177_14 mr_177 rfl ?_
    show xw J ov 98 175 (71, [(4, .int 24), (3, .int 0), (2, .int 0), (0, .ref 80), (1, .int 0)], [.int 1], h0) _
    refine xi_ireturn kc_175_71 mr_175 rfl ?_
    show xw J ov 99 173 (57, [(0, .ref 0), (1, .int a1)], [.int 1], h0) _
    refine xi_ireturn kc_173_57 mr_173 rfl ?_
    show xw J ov 100 196 (1243, [(4, .int 0), (3, .ref 167), (2, .ref 115), (1, .ref 0), (0, .ref 1000000)], [.int 1], h0) _
    refine xi_aload_n (pc' := 1244) (x := 115) kc_196_1243 rfl rfl ?_
    refine xi_aload_n (pc' := 1245) (x := 1000000) kc_196_1244 rfl rfl ?_
    refine xi_iload (pc' := 1247) (x := 0) kc_196_1245 rfl rfl ?_
    refine xi_iconst (pc' := 1248) (v := 1) kc_196_1247 rfl rfl ?_
    refine xi_iadd (pc' := 1249) (v := 1) kc_196_1248 rfl rfl ?_
    refine xi_ialoadO (pc' := 1250) (v := a1) kc_196_1249 rfl (by decide) hov0 (xi_in (n := 6) (by decide) (by decide)) rfl ?_
    refine xi_virtual (mj := 69) (as := [.int a1]) (st1 := [.int 1]) (lv0 := [(0, .ref 115), (1, .int a1)]) kc_196_1250 rfl rfl rfl rfl rfl (F 115 _ hl_115) (Nat.le_of_ble_eq_true rfl) (hJ _ _ _ _ (by decide)) (xm_le ml_69 rfl) rfl ?_
    refine xi_aload_n (pc' := 1) (x := 115) kc_69_0 rfl rfl ?_
    refine xi_iconst (pc' := 2) (v := 0) kc_69_1 rfl rfl ?_
    refine xi_putfield (pc' := 5) (fs' := [.int 0, .int 0, .ref 116, .ref 117, .ref 118, .ref 119, .ref 120, .ref 121, .ref 122, .ref 123, .ref 124, .ref 125, .ref 126, .ref 127, .ref 128, .ref 129, .int 4, .ref 130, .int 0, .ref 131, .ref 132, .ref 133, .ref 134, .int 0, .ref 135, .ref 136, .ref 137, .ref 138, .ref 139, .ref 140, .ref 141, .ref 142, .int 0, .int 0, .int 0, .ref 143, .ref 144, .ref 145, .ref 146, .ref 147, .ref 148, .int 0, .ref 149, .ref 150, .ref 151, .int 0, .ref 152, .ref 153, .ref 154, .ref 155, .ref 156, .ref 157, .ref 158, .ref 159, .int 0, .ref 160, .int 0, .ref 161, .ref 162, .ref 163, .ref 164, .int 0, .ref 165, .ref 166]) kc_69_2 rfl rfl rfl (F 115 _ hl_115) rfl rfl rfl (Nat.le_of_ble_eq_true rfl) rfl (fun hh1 eh1 => ?_)
    refine xi_iload_n (pc' := 6) (x := a1) kc_69_5 rfl rfl ?_
    refine xi_iconst (pc' := 7) (v := 0) kc_69_6 rfl rfl ?_
    refine xi_iconst (pc' := 8) (v := 1) kc_69_7 rfl rfl ?_
    refine xi_static (mj := 12) (as := [.int a1, .int 0, .int 1]) (st1 := []) (lv0 := [(0, .int a1), (1, .int 0), (2, .int 1)]) kc_69_8 rfl rfl (Nat.le_of_ble_eq_true rfl) rfl rfl (Nat.le_of_ble_eq_true rfl) (hJ _ _ _ _ (by decide)) (xm_le ml_12 rfl) rfl ?_
    refine xi_iload_n (pc' := 1) (x := a1) kc_12_0 rfl rfl ?_
    refine xi_iload_n (pc' := 2) (x := 0) kc_12_1 rfl rfl ?_
    refine xi_cmf (pc' := 5) kc_12_2 rfl (xc_lt_f (X := a1.toInt) (Y := 0) rfl (by decide) (by omega)) ?_
    refine xi_iload_n (pc' := 6) (x := a1) kc_12_5 rfl rfl ?_
    refine xi_iload_n (pc' := 7) (x := 1) kc_12_6 rfl rfl ?_
    refine xi_cmf (pc' := 10) kc_12_7 rfl (xc_gt_f (X := a1.toInt) (Y := 1) rfl (by decide) (by omega)) ?_
    refine xi_iconst (pc' := 11) (v := 1) kc_12_10 rfl rfl ?_
    refine xi_goto (pc' := 15) kc_12_11 rfl ?_
    refine xi_ireturn kc_12_15 mr_12 rfl ?_
    show xw J ov 99 69 (11, [(0, .ref 115), (1, .int a1)], [.int 1], hh1) _
    refine xi_ift (pc' := 21) kc_69_11 rfl rfl ?_
    refine xi_aload_n (pc' := 22) (x := 115) kc_69_21 rfl rfl ?_
    refine xi_virtual (mj := 70) (as := []) (st1 := []) (lv0 := [(0, .ref 115)]) kc_69_22 rfl rfl rfl rfl rfl eh1.1 (Nat.le_of_ble_eq_true rfl) (hJ _ _ _ _ (by decide)) (xm_le ml_70 rfl) rfl ?_
    refine xi_aload_n (pc' := 1) (x := 115) kc_70_0 rfl rfl ?_
    refine xi_iconst (pc' := 2) (v := 0) kc_70_1 rfl rfl ?_
    refine xi_putfield (pc' := 5) (fs' := [.int 0, .int 0, .ref 116, .ref 117, .ref 118, .ref 119, .ref 120, .ref 121, .ref 122, .ref 123, .ref 124, .ref 125, .ref 126, .ref 127, .ref 128, .ref 129, .int 4, .ref 130, .int 0, .ref 131, .ref 132, .ref 133, .ref 134, .int 0, .ref 135, .ref 136, .ref 137, .ref 138, .ref 139, .ref 140, .ref 141, .ref 142, .int 0, .int 0, .int 0, .ref 143, .ref 144, .ref 145, .ref 146, .ref 147, .ref 148, .int 0, .ref 149, .ref 150, .ref 151, .int 0, .ref 152, .ref 153, .ref 154, .ref 155, .ref 156, .ref 157, .ref 158, .ref 159, .int 0, .ref 160, .int 0, .ref 161, .ref 162, .ref 163, .ref 164, .int 0, .ref 165, .ref 166]) kc_70_2 rfl rfl rfl eh1.1 rfl rfl rfl (Nat.le_of_ble_eq_true rfl) rfl (fun hh2 eh2 => ?_)
    refine xi_iconst (pc' := 6) (v := 0) kc_70_5 rfl rfl ?_
    refine xi_istore_n (pc' := 7) (lv' := [(1, .int 0), (0, .ref 115)]) kc_70_6 rfl rfl (xm_lt ml_70 rfl) ?_
    refine xi_iload_n (pc' := 8) (x := 0) kc_70_7 rfl rfl ?_
    refine xi_bipush (pc' := 10) (v := 24) kc_70_8 rfl rfl ?_
    refine xi_cmf (pc' := 13) kc_70_10 rfl rfl ?_
    refine xi_aload_n (pc' := 14) (x := 115) kc_70_13 rfl rfl ?_
    refine xi_getfield (pc' := 17) (v := .ref 158) kc_70_14 rfl rfl rfl eh2.1 rfl ?_
    refine xi_iload_n (pc' := 18) (x := 0) kc_70_17 rfl rfl ?_
    refine xi_iaload (pc' := 19) (v := 2) kc_70_18 rfl ((eh2.2.1 158 (by decide)).trans ((eh1.2.1 158 (by decide)).trans (F 158 _ hl_158))) (by decide) rfl (xi_in (n := 24) (by decide) (by decide)) rfl ?_
    refine xi_iconst (pc' := 20) (v := 2) kc_70_19 rfl rfl ?_
    refine xi_cmt (pc' := 43) kc_70_20 rfl rfl ?_
    refine xi_iinc (pc' := 46) (x := 0) (v := 1) (lv' := [(1, .int 1), (0, .ref 115)]) kc_70_43 rfl rfl rfl rfl (xm_lt ml_70 rfl) ?_
    refine xi_goto (pc' := 7) kc_70_46 rfl ?_
    refine xi_iload_n (pc' := 8) (x := 1) kc_70_7 rfl rfl ?_
    refine xi_bipush (pc' := 10) (v := 24) kc_70_8 rfl rfl ?_
    refine xi_cmf (pc' := 13) kc_70_10 rfl rfl ?_
    refine xi_aload_n (pc' := 14) (x := 115) kc_70_13 rfl rfl ?_
    refine xi_getfield (pc' := 17) (v := .ref 158) kc_70_14 rfl rfl rfl eh2.1 rfl ?_
    refine xi_iload_n (pc' := 18) (x := 1) kc_70_17 rfl rfl ?_
    refine xi_iaload (pc' := 19) (v := 2) kc_70_18 rfl ((eh2.2.1 158 (by decide)).trans ((eh1.2.1 158 (by decide)).trans (F 158 _ hl_158))) (by decide) rfl (xi_in (n := 24) (by decide) (by decide)) rfl ?_
    refine xi_iconst (pc' := 20) (v := 2) kc_70_19 rfl rfl ?_
    refine xi_cmt (pc' := 43) kc_70_20 rfl rfl ?_
    refine xi_iinc (pc' := 46) (x := 1) (v := 2) (lv' := [(1, .int 2), (0, .ref 115)]) kc_70_43 rfl rfl rfl rfl (xm_lt ml_70 rfl) ?_
    refine xi_goto (pc' := 7) kc_70_46 rfl ?_
    refine xi_iload_n (pc' := 8) (x := 2) kc_70_7 rfl rfl ?_
    refine xi_bipush (pc' := 10) (v := 24) kc_70_8 rfl rfl ?_
    refine xi_cmf (pc' := 13) kc_70_10 rfl rfl ?_
    refine xi_aload_n (pc' := 14) (x := 115) kc_70_13 rfl rfl ?_
    refine xi_getfield (pc' := 17) (v := .ref 158) kc_70_14 rfl rfl rfl eh2.1 rfl ?_
    refine xi_iload_n (pc' := 18) (x := 2) kc_70_17 rfl rfl ?_
    refine xi_iaload (pc' := 19) (v := 2) kc_70_18 rfl ((eh2.2.1 158 (by decide)).trans ((eh1.2.1 158 (by decide)).trans (F 158 _ hl_158))) (by decide) rfl (xi_in (n := 24) (by decide) (by decide)) rfl ?_
    refine xi_iconst (pc' := 20) (v := 2) kc_70_19 rfl rfl ?_
    refine xi_cmt (pc' := 43) kc_70_20 rfl rfl ?_
    refine xi_iinc (pc' := 46) (x := 2) (v := 3) (lv' := [(1, .int 3), (0, .ref 115)]) kc_70_43 rfl rfl rfl rfl (xm_lt ml_70 rfl) ?_
    refine xi_goto (pc' := 7) kc_70_46 rfl ?_
    refine xi_iload_n (pc' := 8) (x := 3) kc_70_7 rfl rfl ?_
    refine xi_bipush (pc' := 10) (v := 24) kc_70_8 rfl rfl ?_
    refine xi_cmf (pc' := 13) kc_70_10 rfl rfl ?_
    refine xi_aload_n (pc' := 14) (x := 115) kc_70_13 rfl rfl ?_
    refine xi_getfield (pc' := 17) (v := .ref 158) kc_70_14 rfl rfl rfl eh2.1 rfl ?_
    refine xi_iload_n (pc' := 18) (x := 3) kc_70_17 rfl rfl ?_
    refine xi_iaload (pc' := 19) (v := 2) kc_70_18 rfl ((eh2.2.1 158 (by decide)).trans ((eh1.2.1 158 (by decide)).trans (F 158 _ hl_158))) (by decide) rfl (xi_in (n := 24) (by decide) (by decide)) rfl ?_
    refine xi_iconst (pc' := 20) (v := 2) kc_70_19 rfl rfl ?_
    refine xi_cmt (pc' := 43) kc_70_20 rfl rfl ?_
    refine xi_iinc (pc' := 46) (x := 3) (v := 4) (lv' := [(1, .int 4), (0, .ref 115)]) kc_70_43 rfl rfl rfl rfl (xm_lt ml_70 rfl) ?_
    refine xi_goto (pc' := 7) kc_70_46 rfl ?_
    refine xi_iload_n (pc' := 8) (x := 4) kc_70_7 rfl rfl ?_
    refine xi_bipush (pc' := 10) (v := 24) kc_70_8 rfl rfl ?_
    refine xi_cmf (pc' := 13) kc_70_10 rfl rfl ?_
    refine xi_aload_n (pc' := 14) (x := 115) kc_70_13 rfl rfl ?_
    refine xi_getfield (pc' := 17) (v := .ref 158) kc_70_14 rfl rfl rfl eh2.1 rfl ?_
    refine xi_iload_n (pc' := 18) (x := 4) kc_70_17 rfl rfl ?_
    refine xi_iaload (pc' := 19) (v := 2) kc_70_18 rfl ((eh2.2.1 158 (by decide)).trans ((eh1.2.1 158 (by decide)).trans (F 158 _ hl_158))) (by decide) rfl (xi_in (n := 24) (by decide) (by decide)) rfl ?_
    refine xi_iconst (pc' := 20) (v := 2) kc_70_19 rfl rfl ?_
    refine xi_cmt (pc' := 43) kc_70_20 rfl rfl ?_
    refine xi_iinc (pc' := 46) (x := 4) (v := 5) (lv' := [(1, .int 5), (0, .ref 115)]) kc_70_43 rfl rfl rfl rfl (xm_lt ml_70 rfl) ?_
    refine xi_goto (pc' := 7) kc_70_46 rfl ?_
    refine xi_iload_n (pc' := 8) (x := 5) kc_70_7 rfl rfl ?_
    refine xi_bipush (pc' := 10) (v := 24) kc_70_8 rfl rfl ?_
    refine xi_cmf (pc' := 13) kc_70_10 rfl rfl ?_
    refine xi_aload_n (pc' := 14) (x := 115) kc_70_13 rfl rfl ?_
    refine xi_getfield (pc' := 17) (v := .ref 158) kc_70_14 rfl rfl rfl eh2.1 rfl ?_
    refine xi_iload_n (pc' := 18) (x := 5) kc_70_17 rfl rfl ?_
    refine xi_iaload (pc' := 19) (v := 2) kc_70_18 rfl ((eh2.2.1 158 (by decide)).trans ((eh1.2.1 158 (by decide)).trans (F 158 _ hl_158))) (by decide) rfl (xi_in (n := 24) (by decide) (by decide)) rfl ?_
    refine xi_iconst (pc' := 20) (v := 2) kc_70_19 rfl rfl ?_
    refine xi_cmt (pc' := 43) kc_70_20 rfl rfl ?_
    refine xi_iinc (pc' := 46) (x := 5) (v := 6) (lv' := [(1, .int 6), (0, .ref 115)]) kc_70_43 rfl rfl rfl rfl (xm_lt ml_70 rfl) ?_
    refine xi_goto (pc' := 7) kc_70_46 rfl ?_
    refine xi_iload_n (pc' := 8) (x := 6) kc_70_7 rfl rfl ?_
    refine xi_bipush (pc' := 10) (v := 24) kc_70_8 rfl rfl ?_
    refine xi_cmf (pc' := 13) kc_70_10 rfl rfl ?_
    refine xi_aload_n (pc' := 14) (x := 115) kc_70_13 rfl rfl ?_
    refine xi_getfield (pc' := 17) (v := .ref 158) kc_70_14 rfl rfl rfl eh2.1 rfl ?_
    refine xi_iload_n (pc' := 18) (x := 6) kc_70_17 rfl rfl ?_
    refine xi_iaload (pc' := 19) (v := 2) kc_70_18 rfl ((eh2.2.1 158 (by decide)).trans ((eh1.2.1 158 (by decide)).trans (F 158 _ hl_158))) (by decide) rfl (xi_in (n := 24) (by decide) (by decide)) rfl ?_
    refine xi_iconst (pc' := 20) (v := 2) kc_70_19 rfl rfl ?_
    refine xi_cmt (pc' := 43) kc_70_20 rfl rfl ?_
    refine xi_iinc (pc' := 46) (x := 6) (v := 7) (lv' := [(1, .int 7), (0, .ref 115)]) kc_70_43 rfl rfl rfl rfl (xm_lt ml_70 rfl) ?_
    refine xi_goto (pc' := 7) kc_70_46 rfl ?_
    refine xi_iload_n (pc' := 8) (x := 7) kc_70_7 rfl rfl ?_
    refine xi_bipush (pc' := 10) (v := 24) kc_70_8 rfl rfl ?_
    refine xi_cmf (pc' := 13) kc_70_10 rfl rfl ?_
    refine xi_aload_n (pc' := 14) (x := 115) kc_70_13 rfl rfl ?_
    refine xi_getfield (pc' := 17) (v := .ref 158) kc_70_14 rfl rfl rfl eh2.1 rfl ?_
    refine xi_iload_n (pc' := 18) (x := 7) kc_70_17 rfl rfl ?_
    refine xi_iaload (pc' := 19) (v := 2) kc_70_18 rfl ((eh2.2.1 158 (by decide)).trans ((eh1.2.1 158 (by decide)).trans (F 158 _ hl_158))) (by decide) rfl (xi_in (n := 24) (by decide) (by decide)) rfl ?_
    refine xi_iconst (pc' := 20) (v := 2) kc_70_19 rfl rfl ?_
    refine xi_cmt (pc' := 43) kc_70_20 rfl rfl ?_
    refine xi_iinc (pc' := 46) (x := 7) (v := 8) (lv' := [(1, .int 8), (0, .ref 115)]) kc_70_43 rfl rfl rfl rfl (xm_lt ml_70 rfl) ?_
    refine xi_goto (pc' := 7) kc_70_46 rfl ?_
    refine xi_iload_n (pc' := 8) (x := 8) kc_70_7 rfl rfl ?_
    refine xi_bipush (pc' := 10) (v := 24) kc_70_8 rfl rfl ?_
    refine xi_cmf (pc' := 13) kc_70_10 rfl rfl ?_
    refine xi_aload_n (pc' := 14) (x := 115) kc_70_13 rfl rfl ?_
    refine xi_getfield (pc' := 17) (v := .ref 158) kc_70_14 rfl rfl rfl eh2.1 rfl ?_
    refine xi_iload_n (pc' := 18) (x := 8) kc_70_17 rfl rfl ?_
    refine xi_iaload (pc' := 19) (v := 2) kc_70_18 rfl ((eh2.2.1 158 (by decide)).trans ((eh1.2.1 158 (by decide)).trans (F 158 _ hl_158))) (by decide) rfl (xi_in (n := 24) (by decide) (by decide)) rfl ?_
    refine xi_iconst (pc' := 20) (v := 2) kc_70_19 rfl rfl ?_
    refine xi_cmt (pc' := 43) kc_70_20 rfl rfl ?_
    refine xi_iinc (pc' := 46) (x := 8) (v := 9) (lv' := [(1, .int 9), (0, .ref 115)]) kc_70_43 rfl rfl rfl rfl (xm_lt ml_70 rfl) ?_
    refine xi_goto (pc' := 7) kc_70_46 rfl ?_
    refine xi_iload_n (pc' := 8) (x := 9) kc_70_7 rfl rfl ?_
    refine xi_bipush (pc' := 10) (v := 24) kc_70_8 rfl rfl ?_
    refine xi_cmf (pc' := 13) kc_70_10 rfl rfl ?_
    refine xi_aload_n (pc' := 14) (x := 115) kc_70_13 rfl rfl ?_
    refine xi_getfield (pc' := 17) (v := .ref 158) kc_70_14 rfl rfl rfl eh2.1 rfl ?_
    refine xi_iload_n (pc' := 18) (x := 9) kc_70_17 rfl rfl ?_
    refine xi_iaload (pc' := 19) (v := 2) kc_70_18 rfl ((eh2.2.1 158 (by decide)).trans ((eh1.2.1 158 (by decide)).trans (F 158 _ hl_158))) (by decide) rfl (xi_in (n := 24) (by decide) (by decide)) rfl ?_
    refine xi_iconst (pc' := 20) (v := 2) kc_70_19 rfl rfl ?_
    refine xi_cmt (pc' := 43) kc_70_20 rfl rfl ?_
    refine xi_iinc (pc' := 46) (x := 9) (v := 10) (lv' := [(1, .int 10), (0, .ref 115)]) kc_70_43 rfl rfl rfl rfl (xm_lt ml_70 rfl) ?_
    refine xi_goto (pc' := 7) kc_70_46 rfl ?_
    refine xi_iload_n (pc' := 8) (x := 10) kc_70_7 rfl rfl ?_
    refine xi_bipush (pc' := 10) (v := 24) kc_70_8 rfl rfl ?_
    refine xi_cmf (pc' := 13) kc_70_10 rfl rfl ?_
    refine xi_aload_n (pc' := 14) (x := 115) kc_70_13 rfl rfl ?_
    refine xi_getfield (pc' := 17) (v := .ref 158) kc_70_14 rfl rfl rfl eh2.1 rfl ?_
    refine xi_iload_n (pc' := 18) (x := 10) kc_70_17 rfl rfl ?_
    refine xi_iaload (pc' := 19) (v := 2) kc_70_18 rfl ((eh2.2.1 158 (by decide)).trans ((eh1.2.1 158 (by decide)).trans (F 158 _ hl_158))) (by decide) rfl (xi_in (n := 24) (by decide) (by decide)) rfl ?_
    refine xi_iconst (pc' := 20) (v := 2) kc_70_19 rfl rfl ?_
    refine xi_cmt (pc' := 43) kc_70_20 rfl rfl ?_
    refine xi_iinc (pc' := 46) (x := 10) (v := 11) (lv' := [(1, .int 11), (0, .ref 115)]) kc_70_43 rfl rfl rfl rfl (xm_lt ml_70 rfl) ?_
    refine xi_goto (pc' := 7) kc_70_46 rfl ?_
    refine xi_iload_n (pc' := 8) (x := 11) kc_70_7 rfl rfl ?_
    refine xi_bipush (pc' := 10) (v := 24) kc_70_8 rfl rfl ?_
    refine xi_cmf (pc' := 13) kc_70_10 rfl rfl ?_
    refine xi_aload_n (pc' := 14) (x := 115) kc_70_13 rfl rfl ?_
    refine xi_getfield (pc' := 17) (v := .ref 158) kc_70_14 rfl rfl rfl eh2.1 rfl ?_
    refine xi_iload_n (pc' := 18) (x := 11) kc_70_17 rfl rfl ?_
    refine xi_iaload (pc' := 19) (v := 2) kc_70_18 rfl ((eh2.2.1 158 (by decide)).trans ((eh1.2.1 158 (by decide)).trans (F 158 _ hl_158))) (by decide) rfl (xi_in (n := 24) (by decide) (by decide)) rfl ?_
    refine xi_iconst (pc' := 20) (v := 2) kc_70_19 rfl rfl ?_
    refine xi_cmt (pc' := 43) kc_70_20 rfl rfl ?_
    refine xi_iinc (pc' := 46) (x := 11) (v := 12) (lv' := [(1, .int 12), (0, .ref 115)]) kc_70_43 rfl rfl rfl rfl (xm_lt ml_70 rfl) ?_
    refine xi_goto (pc' := 7) kc_70_46 rfl ?_
    refine xi_iload_n (pc' := 8) (x := 12) kc_70_7 rfl rfl ?_
    refine xi_bipush (pc' := 10) (v := 24) kc_70_8 rfl rfl ?_
    refine xi_cmf (pc' := 13) kc_70_10 rfl rfl ?_
    refine xi_aload_n (pc' := 14) (x := 115) kc_70_13 rfl rfl ?_
    refine xi_getfield (pc' := 17) (v := .ref 158) kc_70_14 rfl rfl rfl eh2.1 rfl ?_
    refine xi_iload_n (pc' := 18) (x := 12) kc_70_17 rfl rfl ?_
    refine xi_iaload (pc' := 19) (v := 2) kc_70_18 rfl ((eh2.2.1 158 (by decide)).trans ((eh1.2.1 158 (by decide)).trans (F 158 _ hl_158))) (by decide) rfl (xi_in (n := 24) (by decide) (by decide)) rfl ?_
    refine xi_iconst (pc' := 20) (v := 2) kc_70_19 rfl rfl ?_
    refine xi_cmt (pc' := 43) kc_70_20 rfl rfl ?_
    refine xi_iinc (pc' := 46) (x := 12) (v := 13) (lv' := [(1, .int 13), (0, .ref 115)]) kc_70_43 rfl rfl rfl rfl (xm_lt ml_70 rfl) ?_
    refine xi_goto (pc' := 7) kc_70_46 rfl ?_
    refine xi_iload_n (pc' := 8) (x := 13) kc_70_7 rfl rfl ?_
    refine xi_bipush (pc' := 10) (v := 24) kc_70_8 rfl rfl ?_
    refine xi_cmf (pc' := 13) kc_70_10 rfl rfl ?_
    refine xi_aload_n (pc' := 14) (x := 115) kc_70_13 rfl rfl ?_
    refine xi_getfield (pc' := 17) (v := .ref 158) kc_70_14 rfl rfl rfl eh2.1 rfl ?_
    refine xi_iload_n (pc' := 18) (x := 13) kc_70_17 rfl rfl ?_
    refine xi_iaload (pc' := 19) (v := 2) kc_70_18 rfl ((eh2.2.1 158 (by decide)).trans ((eh1.2.1 158 (by decide)).trans (F 158 _ hl_158))) (by decide) rfl (xi_in (n := 24) (by decide) (by decide)) rfl ?_
    refine xi_iconst (pc' := 20) (v := 2) kc_70_19 rfl rfl ?_
    refine xi_cmt (pc' := 43) kc_70_20 rfl rfl ?_
    refine xi_iinc (pc' := 46) (x := 13) (v := 14) (lv' := [(1, .int 14), (0, .ref 115)]) kc_70_43 rfl rfl rfl rfl (xm_lt ml_70 rfl) ?_
    refine xi_goto (pc' := 7) kc_70_46 rfl ?_
    refine xi_iload_n (pc' := 8) (x := 14) kc_70_7 rfl rfl ?_
    refine xi_bipush (pc' := 10) (v := 24) kc_70_8 rfl rfl ?_
    refine xi_cmf (pc' := 13) kc_70_10 rfl rfl ?_
    refine xi_aload_n (pc' := 14) (x := 115) kc_70_13 rfl rfl ?_
    refine xi_getfield (pc' := 17) (v := .ref 158) kc_70_14 rfl rfl rfl eh2.1 rfl ?_
    refine xi_iload_n (pc' := 18) (x := 14) kc_70_17 rfl rfl ?_
    refine xi_iaload (pc' := 19) (v := 2) kc_70_18 rfl ((eh2.2.1 158 (by decide)).trans ((eh1.2.1 158 (by decide)).trans (F 158 _ hl_158))) (by decide) rfl (xi_in (n := 24) (by decide) (by decide)) rfl ?_
    refine xi_iconst (pc' := 20) (v := 2) kc_70_19 rfl rfl ?_
    refine xi_cmt (pc' := 43) kc_70_20 rfl rfl ?_
    refine xi_iinc (pc' := 46) (x := 14) (v := 15) (lv' := [(1, .int 15), (0, .ref 115)]) kc_70_43 rfl rfl rfl rfl (xm_lt ml_70 rfl) ?_
    refine xi_goto (pc' := 7) kc_70_46 rfl ?_
    refine xi_iload_n (pc' := 8) (x := 15) kc_70_7 rfl rfl ?_
    refine xi_bipush (pc' := 10) (v := 24) kc_70_8 rfl rfl ?_
    refine xi_cmf (pc' := 13) kc_70_10 rfl rfl ?_
    refine xi_aload_n (pc' := 14) (x := 115) kc_70_13 rfl rfl ?_
    refine xi_getfield (pc' := 17) (v := .ref 158) kc_70_14 rfl rfl rfl eh2.1 rfl ?_
    refine xi_iload_n (pc' := 18) (x := 15) kc_70_17 rfl rfl ?_
    refine xi_iaload (pc' := 19) (v := 2) kc_70_18 rfl ((eh2.2.1 158 (by decide)).trans ((eh1.2.1 158 (by decide)).trans (F 158 _ hl_158))) (by decide) rfl (xi_in (n := 24) (by decide) (by decide)) rfl ?_
    refine xi_iconst (pc' := 20) (v := 2) kc_70_19 rfl rfl ?_
    refine xi_cmt (pc' := 43) kc_70_20 rfl rfl ?_
    refine xi_iinc (pc' := 46) (x := 15) (v := 16) (lv' := [(1, .int 16), (0, .ref 115)]) kc_70_43 rfl rfl rfl rfl (xm_lt ml_70 rfl) ?_
    refine xi_goto (pc' := 7) kc_70_46 rfl ?_
    refine xi_iload_n (pc' := 8) (x := 16) kc_70_7 rfl rfl ?_
    refine xi_bipush (pc' := 10) (v := 24) kc_70_8 rfl rfl ?_
    refine xi_cmf (pc' := 13) kc_70_10 rfl rfl ?_
    refine xi_aload_n (pc' := 14) (x := 115) kc_70_13 rfl rfl ?_
    refine xi_getfield (pc' := 17) (v := .ref 158) kc_70_14 rfl rfl rfl eh2.1 rfl ?_
    refine xi_iload_n (pc' := 18) (x := 16) kc_70_17 rfl rfl ?_
    refine xi_iaload (pc' := 19) (v := 2) kc_70_18 rfl ((eh2.2.1 158 (by decide)).trans ((eh1.2.1 158 (by decide)).trans (F 158 _ hl_158))) (by decide) rfl (xi_in (n := 24) (by decide) (by decide)) rfl ?_
    refine xi_iconst (pc' := 20) (v := 2) kc_70_19 rfl rfl ?_
    refine xi_cmt (pc' := 43) kc_70_20 rfl rfl ?_
    refine xi_iinc (pc' := 46) (x := 16) (v := 17) (lv' := [(1, .int 17), (0, .ref 115)]) kc_70_43 rfl rfl rfl rfl (xm_lt ml_70 rfl) ?_
    refine xi_goto (pc' := 7) kc_70_46 rfl ?_
    refine xi_iload_n (pc' := 8) (x := 17) kc_70_7 rfl rfl ?_
    refine xi_bipush (pc' := 10) (v := 24) kc_70_8 rfl rfl ?_
    refine xi_cmf (pc' := 13) kc_70_10 rfl rfl ?_
    refine xi_aload_n (pc' := 14) (x := 115) kc_70_13 rfl rfl ?_
    refine xi_getfield (pc' := 17) (v := .ref 158) kc_70_14 rfl rfl rfl eh2.1 rfl ?_
    refine xi_iload_n (pc' := 18) (x := 17) kc_70_17 rfl rfl ?_
    refine xi_iaload (pc' := 19) (v := 2) kc_70_18 rfl ((eh2.2.1 158 (by decide)).trans ((eh1.2.1 158 (by decide)).trans (F 158 _ hl_158))) (by decide) rfl (xi_in (n := 24) (by decide) (by decide)) rfl ?_
    refine xi_iconst (pc' := 20) (v := 2) kc_70_19 rfl rfl ?_
    refine xi_cmt (pc' := 43) kc_70_20 rfl rfl ?_
    refine xi_iinc (pc' := 46) (x := 17) (v := 18) (lv' := [(1, .int 18), (0, .ref 115)]) kc_70_43 rfl rfl rfl rfl (xm_lt ml_70 rfl) ?_
    refine xi_goto (pc' := 7) kc_70_46 rfl ?_
    refine xi_iload_n (pc' := 8) (x := 18) kc_70_7 rfl rfl ?_
    refine xi_bipush (pc' := 10) (v := 24) kc_70_8 rfl rfl ?_
    refine xi_cmf (pc' := 13) kc_70_10 rfl rfl ?_
    refine xi_aload_n (pc' := 14) (x := 115) kc_70_13 rfl rfl ?_
    refine xi_getfield (pc' := 17) (v := .ref 158) kc_70_14 rfl rfl rfl eh2.1 rfl ?_
    refine xi_iload_n (pc' := 18) (x := 18) kc_70_17 rfl rfl ?_
    refine xi_iaload (pc' := 19) (v := 2) kc_70_18 rfl ((eh2.2.1 158 (by decide)).trans ((eh1.2.1 158 (by decide)).trans (F 158 _ hl_158))) (by decide) rfl (xi_in (n := 24) (by decide) (by decide)) rfl ?_
    refine xi_iconst (pc' := 20) (v := 2) kc_70_19 rfl rfl ?_
    refine xi_cmt (pc' := 43) kc_70_20 rfl rfl ?_
    refine xi_iinc (pc' := 46) (x := 18) (v := 19) (lv' := [(1, .int 19), (0, .ref 115)]) kc_70_43 rfl rfl rfl rfl (xm_lt ml_70 rfl) ?_
    refine xi_goto (pc' := 7) kc_70_46 rfl ?_
    refine xi_iload_n (pc' := 8) (x := 19) kc_70_7 rfl rfl ?_
    refine xi_bipush (pc' := 10) (v := 24) kc_70_8 rfl rfl ?_
    refine xi_cmf (pc' := 13) kc_70_10 rfl rfl ?_
    refine xi_aload_n (pc' := 14) (x := 115) kc_70_13 rfl rfl ?_
    refine xi_getfield (pc' := 17) (v := .ref 158) kc_70_14 rfl rfl rfl eh2.1 rfl ?_
    refine xi_iload_n (pc' := 18) (x := 19) kc_70_17 rfl rfl ?_
    refine xi_iaload (pc' := 19) (v := 2) kc_70_18 rfl ((eh2.2.1 158 (by decide)).trans ((eh1.2.1 158 (by decide)).trans (F 158 _ hl_158))) (by decide) rfl (xi_in (n := 24) (by decide) (by decide)) rfl ?_
    refine xi_iconst (pc' := 20) (v := 2) kc_70_19 rfl rfl ?_
    refine xi_cmt (pc' := 43) kc_70_20 rfl rfl ?_
    refine xi_iinc (pc' := 46) (x := 19) (v := 20) (lv' := [(1, .int 20), (0, .ref 115)]) kc_70_43 rfl rfl rfl rfl (xm_lt ml_70 rfl) ?_
    refine xi_goto (pc' := 7) kc_70_46 rfl ?_
    refine xi_iload_n (pc' := 8) (x := 20) kc_70_7 rfl rfl ?_
    refine xi_bipush (pc' := 10) (v := 24) kc_70_8 rfl rfl ?_
    refine xi_cmf (pc' := 13) kc_70_10 rfl rfl ?_
    refine xi_aload_n (pc' := 14) (x := 115) kc_70_13 rfl rfl ?_
    refine xi_getfield (pc' := 17) (v := .ref 158) kc_70_14 rfl rfl rfl eh2.1 rfl ?_
    refine xi_iload_n (pc' := 18) (x := 20) kc_70_17 rfl rfl ?_
    refine xi_iaload (pc' := 19) (v := 2) kc_70_18 rfl ((eh2.2.1 158 (by decide)).trans ((eh1.2.1 158 (by decide)).trans (F 158 _ hl_158))) (by decide) rfl (xi_in (n := 24) (by decide) (by decide)) rfl ?_
    refine xi_iconst (pc' := 20) (v := 2) kc_70_19 rfl rfl ?_
    refine xi_cmt (pc' := 43) kc_70_20 rfl rfl ?_
    refine xi_iinc (pc' := 46) (x := 20) (v := 21) (lv' := [(1, .int 21), (0, .ref 115)]) kc_70_43 rfl rfl rfl rfl (xm_lt ml_70 rfl) ?_
    refine xi_goto (pc' := 7) kc_70_46 rfl ?_
    refine xi_iload_n (pc' := 8) (x := 21) kc_70_7 rfl rfl ?_
    refine xi_bipush (pc' := 10) (v := 24) kc_70_8 rfl rfl ?_
    refine xi_cmf (pc' := 13) kc_70_10 rfl rfl ?_
    refine xi_aload_n (pc' := 14) (x := 115) kc_70_13 rfl rfl ?_
    refine xi_getfield (pc' := 17) (v := .ref 158) kc_70_14 rfl rfl rfl eh2.1 rfl ?_
    refine xi_iload_n (pc' := 18) (x := 21) kc_70_17 rfl rfl ?_
    refine xi_iaload (pc' := 19) (v := 2) kc_70_18 rfl ((eh2.2.1 158 (by decide)).trans ((eh1.2.1 158 (by decide)).trans (F 158 _ hl_158))) (by decide) rfl (xi_in (n := 24) (by decide) (by decide)) rfl ?_
    refine xi_iconst (pc' := 20) (v := 2) kc_70_19 rfl rfl ?_
    refine xi_cmt (pc' := 43) kc_70_20 rfl rfl ?_
    refine xi_iinc (pc' := 46) (x := 21) (v := 22) (lv' := [(1, .int 22), (0, .ref 115)]) kc_70_43 rfl rfl rfl rfl (xm_lt ml_70 rfl) ?_
    refine xi_goto (pc' := 7) kc_70_46 rfl ?_
    refine xi_iload_n (pc' := 8) (x := 22) kc_70_7 rfl rfl ?_
    refine xi_bipush (pc' := 10) (v := 24) kc_70_8 rfl rfl ?_
    refine xi_cmf (pc' := 13) kc_70_10 rfl rfl ?_
    refine xi_aload_n (pc' := 14) (x := 115) kc_70_13 rfl rfl ?_
    refine xi_getfield (pc' := 17) (v := .ref 158) kc_70_14 rfl rfl rfl eh2.1 rfl ?_
    refine xi_iload_n (pc' := 18) (x := 22) kc_70_17 rfl rfl ?_
    refine xi_iaload (pc' := 19) (v := 2) kc_70_18 rfl ((eh2.2.1 158 (by decide)).trans ((eh1.2.1 158 (by decide)).trans (F 158 _ hl_158))) (by decide) rfl (xi_in (n := 24) (by decide) (by decide)) rfl ?_
    refine xi_iconst (pc' := 20) (v := 2) kc_70_19 rfl rfl ?_
    refine xi_cmt (pc' := 43) kc_70_20 rfl rfl ?_
    refine xi_iinc (pc' := 46) (x := 22) (v := 23) (lv' := [(1, .int 23), (0, .ref 115)]) kc_70_43 rfl rfl rfl rfl (xm_lt ml_70 rfl) ?_
    refine xi_goto (pc' := 7) kc_70_46 rfl ?_
    refine xi_iload_n (pc' := 8) (x := 23) kc_70_7 rfl rfl ?_
    refine xi_bipush (pc' := 10) (v := 24) kc_70_8 rfl rfl ?_
    refine xi_cmf (pc' := 13) kc_70_10 rfl rfl ?_
    refine xi_aload_n (pc' := 14) (x := 115) kc_70_13 rfl rfl ?_
    refine xi_getfield (pc' := 17) (v := .ref 158) kc_70_14 rfl rfl rfl eh2.1 rfl ?_
    refine xi_iload_n (pc' := 18) (x := 23) kc_70_17 rfl rfl ?_
    refine xi_iaload (pc' := 19) (v := 2) kc_70_18 rfl ((eh2.2.1 158 (by decide)).trans ((eh1.2.1 158 (by decide)).trans (F 158 _ hl_158))) (by decide) rfl (xi_in (n := 24) (by decide) (by decide)) rfl ?_
    refine xi_iconst (pc' := 20) (v := 2) kc_70_19 rfl rfl ?_
    refine xi_cmt (pc' := 43) kc_70_20 rfl rfl ?_
    refine xi_iinc (pc' := 46) (x := 23) (v := 24) (lv' := [(1, .int 24), (0, .ref 115)]) kc_70_43 rfl rfl rfl rfl (xm_lt ml_70 rfl) ?_
    refine xi_goto (pc' := 7) kc_70_46 rfl ?_
    refine xi_iload_n (pc' := 8) (x := 24) kc_70_7 rfl rfl ?_
    refine xi_bipush (pc' := 10) (v := 24) kc_70_8 rfl rfl ?_
    refine xi_cmt (pc' := 49) kc_70_10 rfl rfl ?_
    refine xi_return kc_70_49 mr_70 ?_
    show xw J ov 99 69 (25, [(0, .ref 115), (1, .int a1)], [], hh2) _
    refine xi_aload_n (pc' := 26) (x := 115) kc_69_25 rfl rfl ?_
    refine xi_getfield (pc' := 29) (v := .int 0) kc_69_26 rfl rfl rfl eh2.1 rfl ?_
    refine xi_bipush (pc' := 31) (v := 16) kc_69_29 rfl rfl ?_
    refine xi_cmt (pc' := 41) kc_69_31 rfl rfl ?_
    refine xi_iconst (pc' := 42) (v := 0) kc_69_41 rfl rfl ?_
    refine xi_istore_n (pc' := 43) (lv' := [(2, .int 0), (0, .ref 115), (1, .int a1)]) kc_69_42 rfl rfl (xm_lt ml_69 rfl) ?_
    refine xi_iconst (pc' := 44) (v := 0) kc_69_43 rfl rfl ?_
    refine xi_istore_n (pc' := 45) (lv' := [(3, .int 0), (2, .int 0), (0, .ref 115), (1, .int a1)]) kc_69_44 rfl rfl (xm_lt ml_69 rfl) ?_
    refine xi_iload_n (pc' := 46) (x := 0) kc_69_45 rfl rfl ?_
    refine xi_aload_n (pc' := 47) (x := 115) kc_69_46 rfl rfl ?_
    refine xi_getfield (pc' := 50) (v := .int 0) kc_69_47 rfl rfl rfl eh2.1 rfl ?_
    refine xi_cmt (pc' := 132) kc_69_50 rfl rfl ?_
    refine xi_aload_n (pc' := 133) (x := 115) kc_69_132 rfl rfl ?_
    refine xi_virtual (mj := 67) (as := []) (st1 := []) (lv0 := [(0, .ref 115)]) kc_69_133 rfl rfl rfl rfl rfl eh2.1 (Nat.le_of_ble_eq_true rfl) (hJ _ _ _ _ (by decide)) (xm_le ml_67 rfl) rfl ?_
    refine mj_ref hJ eh2.1 ((eh2.2.1 158 (by decide)).trans ((eh1.2.1 158 (by decide)).trans (F 158 _ hl_158))) ?_
    show xw J ov 99 69 (136, [(3, .int 0), (2, .int 0), (0, .ref 115), (1, .int a1)], [.int 0], hh2) _
    refine xi_istore_n (pc' := 137) (lv' := [(3, .int 0), (2, .int 0), (0, .ref 115), (1, .int a1)]) kc_69_136 rfl rfl (xm_lt ml_69 rfl) ?_
    refine xi_iconst (pc' := 138) (v := 0) kc_69_137 rfl rfl ?_
    refine xi_istore (pc' := 140) (lv' := [(4, .int 0), (3, .int 0), (2, .int 0), (0, .ref 115), (1, .int a1)]) kc_69_138 rfl rfl (xm_lt ml_69 rfl) ?_
    refine xi_iconst (pc' := 141) (v := 0) kc_69_140 rfl rfl ?_
    refine xi_istore (pc' := 143) (lv' := [(5, .int 0), (4, .int 0), (3, .int 0), (2, .int 0), (0, .ref 115), (1, .int a1)]) kc_69_141 rfl rfl (xm_lt ml_69 rfl) ?_
    refine xi_iconst (pc' := 144) (v := 0) kc_69_143 rfl rfl ?_
    refine xi_istore (pc' := 146) (lv' := [(6, .int 0), (5, .int 0), (4, .int 0), (3, .int 0), (2, .int 0), (0, .ref 115), (1, .int a1)]) kc_69_144 rfl rfl (xm_lt ml_69 rfl) ?_
    refine xi_iload (pc' := 148) (x := 0) kc_69_146 rfl rfl ?_
    refine xi_iconst (pc' := 149) (v := 1) kc_69_148 rfl rfl ?_
    refine xi_aload_n (pc' := 150) (x := 115) kc_69_149 rfl rfl ?_
    refine xi_getfield (pc' := 153) (v := .int 0) kc_69_150 rfl rfl rfl eh2.1 rfl ?_
    refine xi_ishl (pc' := 154) (v := 1) kc_69_153 rfl rfl ?_
    refine xi_cmf (pc' := 157) kc_69_154 rfl rfl ?_
    refine xi_iload (pc' := 159) (x := 0) kc_69_157 rfl rfl ?_
    refine xi_static (mj := 50) (as := [.int 0]) (st1 := []) (lv0 := [(0, .int 0)]) kc_69_159 rfl rfl (Nat.le_of_ble_eq_true rfl) rfl rfl (Nat.le_of_ble_eq_true rfl) (hJ _ _ _ _ (by decide)) (xm_le ml_50 rfl) rfl ?_
    refine xi_iconst (pc' := 1) (v := 0) kc_50_0 rfl rfl ?_
    refine xi_istore_n (pc' := 2) (lv' := [(1, .int 0), (0, .int 0)]) kc_50_1 rfl rfl (xm_lt ml_50 rfl) ?_
    refine xi_iload_n (pc' := 3) (x := 0) kc_50_2 rfl rfl ?_
    refine xi_istore_n (pc' := 4) (lv' := [(2, .int 0), (1, .int 0), (0, .int 0)]) kc_50_3 rfl rfl (xm_lt ml_50 rfl) ?_
    refine xi_iload_n (pc' := 5) (x := 0) kc_50_4 rfl rfl ?_
    refine xi_ift (pc' := 21) kc_50_5 rfl rfl ?_
    refine xi_iload_n (pc' := 22) (x := 0) kc_50_21 rfl rfl ?_
    refine xi_ireturn kc_50_22 mr_50 rfl ?_
    show xw J ov 99 69 (162, [(6, .int 0), (5, .int 0), (4, .int 0), (3, .int 0), (2, .int 0), (0, .ref 115), (1, .int a1)], [.int 0], hh2) _
    refine xi_iload_n (pc' := 163) (x := 0) kc_69_162 rfl rfl ?_
    refine xi_cmf (pc' := 166) kc_69_163 rfl rfl ?_
    refine xi_iconst (pc' := 167) (v := 0) kc_69_166 rfl rfl ?_
    refine xi_istore (pc' := 169) (lv' := [(7, .int 0), (6, .int 0), (5, .int 0), (4, .int 0), (3, .int 0), (2, .int 0), (0, .ref 115), (1, .int a1)]) kc_69_167 rfl rfl (xm_lt ml_69 rfl) ?_
    refine xi_iconst (pc' := 170) (v := 0) kc_69_169 rfl rfl ?_
    refine xi_istore (pc' := 172) (lv' := [(8, .int 0), (7, .int 0), (6, .int 0), (5, .int 0), (4, .int 0), (3, .int 0), (2, .int 0), (0, .ref 115), (1, .int a1)]) kc_69_170 rfl rfl (xm_lt ml_69 rfl) ?_
    refine xi_iload (pc' := 174) (x := 0) kc_69_172 rfl rfl ?_
    refine xi_aload_n (pc' := 175) (x := 115) kc_69_174 rfl rfl ?_
    refine xi_getfield (pc' := 178) (v := .int 0) kc_69_175 rfl rfl rfl eh2.1 rfl ?_
    refine xi_cmt (pc' := 220) kc_69_178 rfl rfl ?_
    refine xi_iinc (pc' := 223) (x := 0) (v := 1) (lv' := [(5, .int 1), (8, .int 0), (7, .int 0), (6, .int 0), (4, .int 0), (3, .int 0), (2, .int 0), (0, .ref 115), (1, .int a1)]) kc_69_220 rfl rfl rfl rfl (xm_lt ml_69 rfl) ?_
    refine xi_iload (pc' := 225) (x := 0) kc_69_223 rfl rfl ?_
    refine xi_iload (pc' := 227) (x := 0) kc_69_225 rfl rfl ?_
    refine xi_iload_n (pc' := 228) (x := 0) kc_69_227 rfl rfl ?_
    refine xi_cmf (pc' := 231) kc_69_228 rfl rfl ?_
    refine xi_iconst (pc' := 232) (v := 1) kc_69_231 rfl rfl ?_
    refine xi_goto (pc' := 236) kc_69_232 rfl ?_
    refine xi_iadd (pc' := 237) (v := 1) kc_69_236 rfl rfl ?_
    refine xi_istore (pc' := 239) (lv' := [(4, .int 1), (5, .int 1), (8, .int 0), (7, .int 0), (6, .int 0), (3, .int 0), (2, .int 0), (0, .ref 115), (1, .int a1)]) kc_69_237 rfl rfl (xm_lt ml_69 rfl) ?_
    refine xi_iinc (pc' := 242) (x := 0) (v := 1) (lv' := [(6, .int 1), (4, .int 1), (5, .int 1), (8, .int 0), (7, .int 0), (3, .int 0), (2, .int 0), (0, .ref 115), (1, .int a1)]) kc_69_239 rfl rfl rfl rfl (xm_lt ml_69 rfl) ?_
    refine xi_goto (pc' := 146) kc_69_242 rfl ?_
    refine xi_iload (pc' := 148) (x := 1) kc_69_146 rfl rfl ?_
    refine xi_iconst (pc' := 149) (v := 1) kc_69_148 rfl rfl ?_
    refine xi_aload_n (pc' := 150) (x := 115) kc_69_149 rfl rfl ?_
    refine xi_getfield (pc' := 153) (v := .int 0) kc_69_150 rfl rfl rfl eh2.1 rfl ?_
    refine xi_ishl (pc' := 154) (v := 1) kc_69_153 rfl rfl ?_
    refine xi_cmt (pc' := 245) kc_69_154 rfl rfl ?_
    refine xi_iload_n (pc' := 246) (x := a1) kc_69_245 rfl rfl ?_
    refine xi_iff (pc' := 249) kc_69_246 rfl (xc_ne_f (X := a1.toInt) (Y := 0) rfl (by decide) (by omega)) ?_
    refine xi_iload (pc' := 251) (x := 1) kc_69_249 rfl rfl ?_
    refine xi_goto (pc' := 256) kc_69_251 rfl ?_
    refine xi_ireturn kc_69_256 mr_69 rfl ?_
    show xw J ov 100 196 (1253, [(4, .int 0), (3, .ref 167), (2, .ref 115), (1, .ref 0), (0, .ref 1000000)], [.int 1, .int 1], hh2) _
    refine xi_cmt (pc' := 1528) kc_196_1253 rfl rfl ?_
    refine xi_iinc (pc' := 1531) (x := 0) (v := 6) (lv' := [(4, .int 6), (3, .ref 167), (2, .ref 115), (1, .ref 0), (0, .ref 1000000)]) kc_196_1528 rfl rfl rfl rfl (xm_lt ml_196 rfl) ?_
    refine xi_goto (pc' := 23) kc_196_1531 rfl ?_
    refine xi_iload (pc' := 25) (x := 6) kc_196_23 rfl rfl ?_
    refine xi_aload_n (pc' := 26) (x := 1000000) kc_196_25 rfl rfl ?_
    refine xi_arraylength (pc' := 27) (n := 6) (v := 6) kc_196_26 rfl (xl_lenO (by decide) hov0 rfl) rfl ?_
    refine xi_bipush (pc' := 29) (v := 6) kc_196_27 rfl rfl ?_
    refine xi_isub (pc' := 30) (v := 0) kc_196_29 rfl rfl ?_
    refine xi_cmt (pc' := 1534) kc_196_30 rfl rfl ?_
    refine xi_iconst (pc' := 1535) (v := 1) kc_196_1534 rfl rfl ?_
    refine xi_ireturn kc_196_1535 mr_196 rfl ?_
    refine ⟨rfl, ?_, ?_⟩
    · rw [eh2.2.2.1, eh1.2.2.1]; exact hn0
    · rw [eh2.2.2.2, eh1.2.2.2]; exact hz0
  · refine xi_iff (pc' := 4) kc_173_1 rfl (xc_eq_f (X := a1.toInt) (Y := 0) rfl (by decide) (by omega)) ?_
    refine xi_iload_n (pc' := 5) (x := a1) kc_173_4 rfl rfl ?_
    refine xi_iconst (pc' := 6) (v := 1) kc_173_5 rfl rfl ?_
    by_cases c2 : a1.toInt = 1
    · refine xi_cmt (pc' := 16) kc_173_6 rfl (xc_eq_t (X := a1.toInt) (Y := 1) rfl (by decide) (by omega)) ?_
      refine xi_aload_n (pc' := 17) (x := 0) kc_173_16 rfl rfl ?_
      refine xi_getfield (pc' := 20) (v := .ref 80) kc_173_17 rfl rfl rfl (F 0 _ hl_0) rfl ?_
      refine xi_virtual (mj := 174) (as := []) (st1 := []) (lv0 := [(0, .ref 80)]) kc_173_20 rfl rfl rfl rfl rfl (F 80 _ hl_80) (Nat.le_of_ble_eq_true rfl) (hJ _ _ _ _ (by decide)) (xm_le ml_174 rfl) rfl ?_
      refine xi_iconst (pc' := 1) (v := 0) kc_174_0 rfl rfl ?_
      refine xi_istore_n (pc' := 2) (lv' := [(1, .int 0), (0, .ref 80)]) kc_174_1 rfl rfl (xm_lt ml_174 rfl) ?_
      refine xi_iconst (pc' := 3) (v := 0) kc_174_2 rfl rfl ?_
      refine xi_istore_n (pc' := 4) (lv' := [(2, .int 0), (1, .int 0), (0, .ref 80)]) kc_174_3 rfl rfl (xm_lt ml_174 rfl) ?_
      refine xi_iload_n (pc' := 5) (x := 0) kc_174_4 rfl rfl ?_
      refine xi_bipush (pc' := 7) (v := 24) kc_174_5 rfl rfl ?_
      refine xi_cmf (pc' := 10) kc_174_7 rfl rfl ?_
      refine xi_iload_n (pc' := 11) (x := 0) kc_174_10 rfl rfl ?_
      refine xi_aload_n (pc' := 12) (x := 80) kc_174_11 rfl rfl ?_
      refine xi_getfield (pc' := 15) (v := .ref 83) kc_174_12 rfl rfl rfl (F 80 _ hl_80) rfl ?_
      refine xi_iload_n (pc' := 16) (x := 0) kc_174_15 rfl rfl ?_
      refine xi_iaload (pc' := 17) (v := 2) kc_174_16 rfl (F 83 _ hl_83) (by decide) rfl (xi_in (n := 24) (by decide) (by decide)) rfl ?_
      refine xi_iconst (pc' := 18) (v := 2) kc_174_17 rfl rfl ?_
      refine xi_cmf (pc' := 21) kc_174_18 rfl rfl ?_
      refine xi_iconst (pc' := 22) (v := 0) kc_174_21 rfl rfl ?_
      refine xi_goto (pc' := 26) kc_174_22 rfl ?_
      refine xi_iadd (pc' := 27) (v := 0) kc_174_26 rfl rfl ?_
      refine xi_istore_n (pc' := 28) (lv' := [(1, .int 0), (2, .int 0), (0, .ref 80)]) kc_174_27 rfl rfl (xm_lt ml_174 rfl) ?_
      refine xi_iinc (pc' := 31) (x := 0) (v := 1) (lv' := [(2, .int 1), (1, .int 0), (0, .ref 80)]) kc_174_28 rfl rfl rfl rfl (xm_lt ml_174 rfl) ?_
      refine xi_goto (pc' := 4) kc_174_31 rfl ?_
      refine xi_iload_n (pc' := 5) (x := 1) kc_174_4 rfl rfl ?_
      refine xi_bipush (pc' := 7) (v := 24) kc_174_5 rfl rfl ?_
      refine xi_cmf (pc' := 10) kc_174_7 rfl rfl ?_
      refine xi_iload_n (pc' := 11) (x := 0) kc_174_10 rfl rfl ?_
      refine xi_aload_n (pc' := 12) (x := 80) kc_174_11 rfl rfl ?_
      refine xi_getfield (pc' := 15) (v := .ref 83) kc_174_12 rfl rfl rfl (F 80 _ hl_80) rfl ?_
      refine xi_iload_n (pc' := 16) (x := 1) kc_174_15 rfl rfl ?_
      refine xi_iaload (pc' := 17) (v := 2) kc_174_16 rfl (F 83 _ hl_83) (by decide) rfl (xi_in (n := 24) (by decide) (by decide)) rfl ?_
      refine xi_iconst (pc' := 18) (v := 2) kc_174_17 rfl rfl ?_
      refine xi_cmf (pc' := 21) kc_174_18 rfl rfl ?_
      refine xi_iconst (pc' := 22) (v := 0) kc_174_21 rfl rfl ?_
      refine xi_goto (pc' := 26) kc_174_22 rfl ?_
      refine xi_iadd (pc' := 27) (v := 0) kc_174_26 rfl rfl ?_
      refine xi_istore_n (pc' := 28) (lv' := [(1, .int 0), (2, .int 1), (0, .ref 80)]) kc_174_27 rfl rfl (xm_lt ml_174 rfl) ?_
      refine xi_iinc (pc' := 31) (x := 1) (v := 2) (lv' := [(2, .int 2), (1, .int 0), (0, .ref 80)]) kc_174_28 rfl rfl rfl rfl (xm_lt ml_174 rfl) ?_
      refine xi_goto (pc' := 4) kc_174_31 rfl ?_
      refine xi_iload_n (pc' := 5) (x := 2) kc_174_4 rfl rfl ?_
      refine xi_bipush (pc' := 7) (v := 24) kc_174_5 rfl rfl ?_
      refine xi_cmf (pc' := 10) kc_174_7 rfl rfl ?_
      refine xi_iload_n (pc' := 11) (x := 0) kc_174_10 rfl rfl ?_
      refine xi_aload_n (pc' := 12) (x := 80) kc_174_11 rfl rfl ?_
      refine xi_getfield (pc' := 15) (v := .ref 83) kc_174_12 rfl rfl rfl (F 80 _ hl_80) rfl ?_
      refine xi_iload_n (pc' := 16) (x := 2) kc_174_15 rfl rfl ?_
      refine xi_iaload (pc' := 17) (v := 2) kc_174_16 rfl (F 83 _ hl_83) (by decide) rfl (xi_in (n := 24) (by decide) (by decide)) rfl ?_
      refine xi_iconst (pc' := 18) (v := 2) kc_174_17 rfl rfl ?_
      refine xi_cmf (pc' := 21) kc_174_18 rfl rfl ?_
      refine xi_iconst (pc' := 22) (v := 0) kc_174_21 rfl rfl ?_
      refine xi_goto (pc' := 26) kc_174_22 rfl ?_
      refine xi_iadd (pc' := 27) (v := 0) kc_174_26 rfl rfl ?_
      refine xi_istore_n (pc' := 28) (lv' := [(1, .int 0), (2, .int 2), (0, .ref 80)]) kc_174_27 rfl rfl (xm_lt ml_174 rfl) ?_
      refine xi_iinc (pc' := 31) (x := 2) (v := 3) (lv' := [(2, .int 3), (1, .int 0), (0, .ref 80)]) kc_174_28 rfl rfl rfl rfl (xm_lt ml_174 rfl) ?_
      refine xi_goto (pc' := 4) kc_174_31 rfl ?_
      refine xi_iload_n (pc' := 5) (x := 3) kc_174_4 rfl rfl ?_
      refine xi_bipush (pc' := 7) (v := 24) kc_174_5 rfl rfl ?_
      refine xi_cmf (pc' := 10) kc_174_7 rfl rfl ?_
      refine xi_iload_n (pc' := 11) (x := 0) kc_174_10 rfl rfl ?_
      refine xi_aload_n (pc' := 12) (x := 80) kc_174_11 rfl rfl ?_
      refine xi_getfield (pc' := 15) (v := .ref 83) kc_174_12 rfl rfl rfl (F 80 _ hl_80) rfl ?_
      refine xi_iload_n (pc' := 16) (x := 3) kc_174_15 rfl rfl ?_
      refine xi_iaload (pc' := 17) (v := 2) kc_174_16 rfl (F 83 _ hl_83) (by decide) rfl (xi_in (n := 24) (by decide) (by decide)) rfl ?_
      refine xi_iconst (pc' := 18) (v := 2) kc_174_17 rfl rfl ?_
      refine xi_cmf (pc' := 21) kc_174_18 rfl rfl ?_
      refine xi_iconst (pc' := 22) (v := 0) kc_174_21 rfl rfl ?_
      refine xi_goto (pc' := 26) kc_174_22 rfl ?_
      refine xi_iadd (pc' := 27) (v := 0) kc_174_26 rfl rfl ?_
      refine xi_istore_n (pc' := 28) (lv' := [(1, .int 0), (2, .int 3), (0, .ref 80)]) kc_174_27 rfl rfl (xm_lt ml_174 rfl) ?_
      refine xi_iinc (pc' := 31) (x := 3) (v := 4) (lv' := [(2, .int 4), (1, .int 0), (0, .ref 80)]) kc_174_28 rfl rfl rfl rfl (xm_lt ml_174 rfl) ?_
      refine xi_goto (pc' := 4) kc_174_31 rfl ?_
      refine xi_iload_n (pc' := 5) (x := 4) kc_174_4 rfl rfl ?_
      refine xi_bipush (pc' := 7) (v := 24) kc_174_5 rfl rfl ?_
      refine xi_cmf (pc' := 10) kc_174_7 rfl rfl ?_
      refine xi_iload_n (pc' := 11) (x := 0) kc_174_10 rfl rfl ?_
      refine xi_aload_n (pc' := 12) (x := 80) kc_174_11 rfl rfl ?_
      refine xi_getfield (pc' := 15) (v := .ref 83) kc_174_12 rfl rfl rfl (F 80 _ hl_80) rfl ?_
      refine xi_iload_n (pc' := 16) (x := 4) kc_174_15 rfl rfl ?_
      refine xi_iaload (pc' := 17) (v := 2) kc_174_16 rfl (F 83 _ hl_83) (by decide) rfl (xi_in (n := 24) (by decide) (by decide)) rfl ?_
      refine xi_iconst (pc' := 18) (v := 2) kc_174_17 rfl rfl ?_
      refine xi_cmf (pc' := 21) kc_174_18 rfl rfl ?_
      refine xi_iconst (pc' := 22) (v := 0) kc_174_21 rfl rfl ?_
      refine xi_goto (pc' := 26) kc_174_22 rfl ?_
      refine xi_iadd (pc' := 27) (v := 0) kc_174_26 rfl rfl ?_
      refine xi_istore_n (pc' := 28) (lv' := [(1, .int 0), (2, .int 4), (0, .ref 80)]) kc_174_27 rfl rfl (xm_lt ml_174 rfl) ?_
      refine xi_iinc (pc' := 31) (x := 4) (v := 5) (lv' := [(2, .int 5), (1, .int 0), (0, .ref 80)]) kc_174_28 rfl rfl rfl rfl (xm_lt ml_174 rfl) ?_
      refine xi_goto (pc' := 4) kc_174_31 rfl ?_
      refine xi_iload_n (pc' := 5) (x := 5) kc_174_4 rfl rfl ?_
      refine xi_bipush (pc' := 7) (v := 24) kc_174_5 rfl rfl ?_
      refine xi_cmf (pc' := 10) kc_174_7 rfl rfl ?_
      refine xi_iload_n (pc' := 11) (x := 0) kc_174_10 rfl rfl ?_
      refine xi_aload_n (pc' := 12) (x := 80) kc_174_11 rfl rfl ?_
      refine xi_getfield (pc' := 15) (v := .ref 83) kc_174_12 rfl rfl rfl (F 80 _ hl_80) rfl ?_
      refine xi_iload_n (pc' := 16) (x := 5) kc_174_15 rfl rfl ?_
      refine xi_iaload (pc' := 17) (v := 2) kc_174_16 rfl (F 83 _ hl_83) (by decide) rfl (xi_in (n := 24) (by decide) (by decide)) rfl ?_
      refine xi_iconst (pc' := 18) (v := 2) kc_174_17 rfl rfl ?_
      refine xi_cmf (pc' := 21) kc_174_18 rfl rfl ?_
      refine xi_iconst (pc' := 22) (v := 0) kc_174_21 rfl rfl ?_
      refine xi_goto (pc' := 26) kc_174_22 rfl ?_
      refine xi_iadd (pc' := 27) (v := 0) kc_174_26 rfl rfl ?_
      refine xi_istore_n (pc' := 28) (lv' := [(1, .int 0), (2, .int 5), (0, .ref 80)]) kc_174_27 rfl rfl (xm_lt ml_174 rfl) ?_
      refine xi_iinc (pc' := 31) (x := 5) (v := 6) (lv' := [(2, .int 6), (1, .int 0), (0, .ref 80)]) kc_174_28 rfl rfl rfl rfl (xm_lt ml_174 rfl) ?_
      refine xi_goto (pc' := 4) kc_174_31 rfl ?_
      refine xi_iload_n (pc' := 5) (x := 6) kc_174_4 rfl rfl ?_
      refine xi_bipush (pc' := 7) (v := 24) kc_174_5 rfl rfl ?_
      refine xi_cmf (pc' := 10) kc_174_7 rfl rfl ?_
      refine xi_iload_n (pc' := 11) (x := 0) kc_174_10 rfl rfl ?_
      refine xi_aload_n (pc' := 12) (x := 80) kc_174_11 rfl rfl ?_
      refine xi_getfield (pc' := 15) (v := .ref 83) kc_174_12 rfl rfl rfl (F 80 _ hl_80) rfl ?_
      refine xi_iload_n (pc' := 16) (x := 6) kc_174_15 rfl rfl ?_
      refine xi_iaload (pc' := 17) (v := 2) kc_174_16 rfl (F 83 _ hl_83) (by decide) rfl (xi_in (n := 24) (by decide) (by decide)) rfl ?_
      refine xi_iconst (pc' := 18) (v := 2) kc_174_17 rfl rfl ?_
      refine xi_cmf (pc' := 21) kc_174_18 rfl rfl ?_
      refine xi_iconst (pc' := 22) (v := 0) kc_174_21 rfl rfl ?_
      refine xi_goto (pc' := 26) kc_174_22 rfl ?_
      refine xi_iadd (pc' := 27) (v := 0) kc_174_26 rfl rfl ?_
      refine xi_istore_n (pc' := 28) (lv' := [(1, .int 0), (2, .int 6), (0, .ref 80)]) kc_174_27 rfl rfl (xm_lt ml_174 rfl) ?_
      refine xi_iinc (pc' := 31) (x := 6) (v := 7) (lv' := [(2, .int 7), (1, .int 0), (0, .ref 80)]) kc_174_28 rfl rfl rfl rfl (xm_lt ml_174 rfl) ?_
      refine xi_goto (pc' := 4) kc_174_31 rfl ?_
      refine xi_iload_n (pc' := 5) (x := 7) kc_174_4 rfl rfl ?_
      refine xi_bipush (pc' := 7) (v := 24) kc_174_5 rfl rfl ?_
      refine xi_cmf (pc' := 10) kc_174_7 rfl rfl ?_
      refine xi_iload_n (pc' := 11) (x := 0) kc_174_10 rfl rfl ?_
      refine xi_aload_n (pc' := 12) (x := 80) kc_174_11 rfl rfl ?_
      refine xi_getfield (pc' := 15) (v := .ref 83) kc_174_12 rfl rfl rfl (F 80 _ hl_80) rfl ?_
      refine xi_iload_n (pc' := 16) (x := 7) kc_174_15 rfl rfl ?_
      refine xi_iaload (pc' := 17) (v := 2) kc_174_16 rfl (F 83 _ hl_83) (by decide) rfl (xi_in (n := 24) (by decide) (by decide)) rfl ?_
      refine xi_iconst (pc' := 18) (v := 2) kc_174_17 rfl rfl ?_
      refine xi_cmf (pc' := 21) kc_174_18 rfl rfl ?_
      refine xi_iconst (pc' := 22) (v := 0) kc_174_21 rfl rfl ?_
      refine xi_goto (pc' := 26) kc_174_22 rfl ?_
      refine xi_iadd (pc' := 27) (v := 0) kc_174_26 rfl rfl ?_
      refine xi_istore_n (pc' := 28) (lv' := [(1, .int 0), (2, .int 7), (0, .ref 80)]) kc_174_27 rfl rfl (xm_lt ml_174 rfl) ?_
      refine xi_iinc (pc' := 31) (x := 7) (v := 8) (lv' := [(2, .int 8), (1, .int 0), (0, .ref 80)]) kc_174_28 rfl rfl rfl rfl (xm_lt ml_174 rfl) ?_
      refine xi_goto (pc' := 4) kc_174_31 rfl ?_
      refine xi_iload_n (pc' := 5) (x := 8) kc_174_4 rfl rfl ?_
      refine xi_bipush (pc' := 7) (v := 24) kc_174_5 rfl rfl ?_
      refine xi_cmf (pc' := 10) kc_174_7 rfl rfl ?_
      refine xi_iload_n (pc' := 11) (x := 0) kc_174_10 rfl rfl ?_
      refine xi_aload_n (pc' := 12) (x := 80) kc_174_11 rfl rfl ?_
      refine xi_getfield (pc' := 15) (v := .ref 83) kc_174_12 rfl rfl rfl (F 80 _ hl_80) rfl ?_
      refine xi_iload_n (pc' := 16) (x := 8) kc_174_15 rfl rfl ?_
      refine xi_iaload (pc' := 17) (v := 2) kc_174_16 rfl (F 83 _ hl_83) (by decide) rfl (xi_in (n := 24) (by decide) (by decide)) rfl ?_
      refine xi_iconst (pc' := 18) (v := 2) kc_174_17 rfl rfl ?_
      refine xi_cmf (pc' := 21) kc_174_18 rfl rfl ?_
      refine xi_iconst (pc' := 22) (v := 0) kc_174_21 rfl rfl ?_
      refine xi_goto (pc' := 26) kc_174_22 rfl ?_
      refine xi_iadd (pc' := 27) (v := 0) kc_174_26 rfl rfl ?_
      refine xi_istore_n (pc' := 28) (lv' := [(1, .int 0), (2, .int 8), (0, .ref 80)]) kc_174_27 rfl rfl (xm_lt ml_174 rfl) ?_
      refine xi_iinc (pc' := 31) (x := 8) (v := 9) (lv' := [(2, .int 9), (1, .int 0), (0, .ref 80)]) kc_174_28 rfl rfl rfl rfl (xm_lt ml_174 rfl) ?_
      refine xi_goto (pc' := 4) kc_174_31 rfl ?_
      refine xi_iload_n (pc' := 5) (x := 9) kc_174_4 rfl rfl ?_
      refine xi_bipush (pc' := 7) (v := 24) kc_174_5 rfl rfl ?_
      refine xi_cmf (pc' := 10) kc_174_7 rfl rfl ?_
      refine xi_iload_n (pc' := 11) (x := 0) kc_174_10 rfl rfl ?_
      refine xi_aload_n (pc' := 12) (x := 80) kc_174_11 rfl rfl ?_
      refine xi_getfield (pc' := 15) (v := .ref 83) kc_174_12 rfl rfl rfl (F 80 _ hl_80) rfl ?_
      refine xi_iload_n (pc' := 16) (x := 9) kc_174_15 rfl rfl ?_
      refine xi_iaload (pc' := 17) (v := 2) kc_174_16 rfl (F 83 _ hl_83) (by decide) rfl (xi_in (n := 24) (by decide) (by decide)) rfl ?_
      refine xi_iconst (pc' := 18) (v := 2) kc_174_17 rfl rfl ?_
      refine xi_cmf (pc' := 21) kc_174_18 rfl rfl ?_
      refine xi_iconst (pc' := 22) (v := 0) kc_174_21 rfl rfl ?_
      refine xi_goto (pc' := 26) kc_174_22 rfl ?_
      refine xi_iadd (pc' := 27) (v := 0) kc_174_26 rfl rfl ?_
      refine xi_istore_n (pc' := 28) (lv' := [(1, .int 0), (2, .int 9), (0, .ref 80)]) kc_174_27 rfl rfl (xm_lt ml_174 rfl) ?_
      refine xi_iinc (pc' := 31) (x := 9) (v := 10) (lv' := [(2, .int 10), (1, .int 0), (0, .ref 80)]) kc_174_28 rfl rfl rfl rfl (xm_lt ml_174 rfl) ?_
      refine xi_goto (pc' := 4) kc_174_31 rfl ?_
      refine xi_iload_n (pc' := 5) (x := 10) kc_174_4 rfl rfl ?_
      refine xi_bipush (pc' := 7) (v := 24) kc_174_5 rfl rfl ?_
      refine xi_cmf (pc' := 10) kc_174_7 rfl rfl ?_
      refine xi_iload_n (pc' := 11) (x := 0) kc_174_10 rfl rfl ?_
      refine xi_aload_n (pc' := 12) (x := 80) kc_174_11 rfl rfl ?_
      refine xi_getfield (pc' := 15) (v := .ref 83) kc_174_12 rfl rfl rfl (F 80 _ hl_80) rfl ?_
      refine xi_iload_n (pc' := 16) (x := 10) kc_174_15 rfl rfl ?_
      refine xi_iaload (pc' := 17) (v := 2) kc_174_16 rfl (F 83 _ hl_83) (by decide) rfl (xi_in (n := 24) (by decide) (by decide)) rfl ?_
      refine xi_iconst (pc' := 18) (v := 2) kc_174_17 rfl rfl ?_
      refine xi_cmf (pc' := 21) kc_174_18 rfl rfl ?_
      refine xi_iconst (pc' := 22) (v := 0) kc_174_21 rfl rfl ?_
      refine xi_goto (pc' := 26) kc_174_22 rfl ?_
      refine xi_iadd (pc' := 27) (v := 0) kc_174_26 rfl rfl ?_
      refine xi_istore_n (pc' := 28) (lv' := [(1, .int 0), (2, .int 10), (0, .ref 80)]) kc_174_27 rfl rfl (xm_lt ml_174 rfl) ?_
      refine xi_iinc (pc' := 31) (x := 10) (v := 11) (lv' := [(2, .int 11), (1, .int 0), (0, .ref 80)]) kc_174_28 rfl rfl rfl rfl (xm_lt ml_174 rfl) ?_
      refine xi_goto (pc' := 4) kc_174_31 rfl ?_
      refine xi_iload_n (pc' := 5) (x := 11) kc_174_4 rfl rfl ?_
      refine xi_bipush (pc' := 7) (v := 24) kc_174_5 rfl rfl ?_
      refine xi_cmf (pc' := 10) kc_174_7 rfl rfl ?_
      refine xi_iload_n (pc' := 11) (x := 0) kc_174_10 rfl rfl ?_
      refine xi_aload_n (pc' := 12) (x := 80) kc_174_11 rfl rfl ?_
      refine xi_getfield (pc' := 15) (v := .ref 83) kc_174_12 rfl rfl rfl (F 80 _ hl_80) rfl ?_
      refine xi_iload_n (pc' := 16) (x := 11) kc_174_15 rfl rfl ?_
      refine xi_iaload (pc' := 17) (v := 2) kc_174_16 rfl (F 83 _ hl_83) (by decide) rfl (xi_in (n := 24) (by decide) (by decide)) rfl ?_
      refine xi_iconst (pc' := 18) (v := 2) kc_174_17 rfl rfl ?_
      refine xi_cmf (pc' := 21) kc_174_18 rfl rfl ?_
      refine xi_iconst (pc' := 22) (v := 0) kc_174_21 rfl rfl ?_
      refine xi_goto (pc' := 26) kc_174_22 rfl ?_
      refine xi_iadd (pc' := 27) (v := 0) kc_174_26 rfl rfl ?_
      refine xi_istore_n (pc' := 28) (lv' := [(1, .int 0), (2, .int 11), (0, .ref 80)]) kc_174_27 rfl rfl (xm_lt ml_174 rfl) ?_
      refine xi_iinc (pc' := 31) (x := 11) (v := 12) (lv' := [(2, .int 12), (1, .int 0), (0, .ref 80)]) kc_174_28 rfl rfl rfl rfl (xm_lt ml_174 rfl) ?_
      refine xi_goto (pc' := 4) kc_174_31 rfl ?_
      refine xi_iload_n (pc' := 5) (x := 12) kc_174_4 rfl rfl ?_
      refine xi_bipush (pc' := 7) (v := 24) kc_174_5 rfl rfl ?_
      refine xi_cmf (pc' := 10) kc_174_7 rfl rfl ?_
      refine xi_iload_n (pc' := 11) (x := 0) kc_174_10 rfl rfl ?_
      refine xi_aload_n (pc' := 12) (x := 80) kc_174_11 rfl rfl ?_
      refine xi_getfield (pc' := 15) (v := .ref 83) kc_174_12 rfl rfl rfl (F 80 _ hl_80) rfl ?_
      refine xi_iload_n (pc' := 16) (x := 12) kc_174_15 rfl rfl ?_
      refine xi_iaload (pc' := 17) (v := 2) kc_174_16 rfl (F 83 _ hl_83) (by decide) rfl (xi_in (n := 24) (by decide) (by decide)) rfl ?_
      refine xi_iconst (pc' := 18) (v := 2) kc_174_17 rfl rfl ?_
      refine xi_cmf (pc' := 21) kc_174_18 rfl rfl ?_
      refine xi_iconst (pc' := 22) (v := 0) kc_174_21 rfl rfl ?_
      refine xi_goto (pc' := 26) kc_174_22 rfl ?_
      refine xi_iadd (pc' := 27) (v := 0) kc_174_26 rfl rfl ?_
      refine xi_istore_n (pc' := 28) (lv' := [(1, .int 0), (2, .int 12), (0, .ref 80)]) kc_174_27 rfl rfl (xm_lt ml_174 rfl) ?_
      refine xi_iinc (pc' := 31) (x := 12) (v := 13) (lv' := [(2, .int 13), (1, .int 0), (0, .ref 80)]) kc_174_28 rfl rfl rfl rfl (xm_lt ml_174 rfl) ?_
      refine xi_goto (pc' := 4) kc_174_31 rfl ?_
      refine xi_iload_n (pc' := 5) (x := 13) kc_174_4 rfl rfl ?_
      refine xi_bipush (pc' := 7) (v := 24) kc_174_5 rfl rfl ?_
      refine xi_cmf (pc' := 10) kc_174_7 rfl rfl ?_
      refine xi_iload_n (pc' := 11) (x := 0) kc_174_10 rfl rfl ?_
      refine xi_aload_n (pc' := 12) (x := 80) kc_174_11 rfl rfl ?_
      refine xi_getfield (pc' := 15) (v := .ref 83) kc_174_12 rfl rfl rfl (F 80 _ hl_80) rfl ?_
      refine xi_iload_n (pc' := 16) (x := 13) kc_174_15 rfl rfl ?_
      refine xi_iaload (pc' := 17) (v := 2) kc_174_16 rfl (F 83 _ hl_83) (by decide) rfl (xi_in (n := 24) (by decide) (by decide)) rfl ?_
      refine xi_iconst (pc' := 18) (v := 2) kc_174_17 rfl rfl ?_
      refine xi_cmf (pc' := 21) kc_174_18 rfl rfl ?_
      refine xi_iconst (pc' := 22) (v := 0) kc_174_21 rfl rfl ?_
      refine xi_goto (pc' := 26) kc_174_22 rfl ?_
      refine xi_iadd (pc' := 27) (v := 0) kc_174_26 rfl rfl ?_
      refine xi_istore_n (pc' := 28) (lv' := [(1, .int 0), (2, .int 13), (0, .ref 80)]) kc_174_27 rfl rfl (xm_lt ml_174 rfl) ?_
      refine xi_iinc (pc' := 31) (x := 13) (v := 14) (lv' := [(2, .int 14), (1, .int 0), (0, .ref 80)]) kc_174_28 rfl rfl rfl rfl (xm_lt ml_174 rfl) ?_
      refine xi_goto (pc' := 4) kc_174_31 rfl ?_
      refine xi_iload_n (pc' := 5) (x := 14) kc_174_4 rfl rfl ?_
      refine xi_bipush (pc' := 7) (v := 24) kc_174_5 rfl rfl ?_
      refine xi_cmf (pc' := 10) kc_174_7 rfl rfl ?_
      refine xi_iload_n (pc' := 11) (x := 0) kc_174_10 rfl rfl ?_
      refine xi_aload_n (pc' := 12) (x := 80) kc_174_11 rfl rfl ?_
      refine xi_getfield (pc' := 15) (v := .ref 83) kc_174_12 rfl rfl rfl (F 80 _ hl_80) rfl ?_
      refine xi_iload_n (pc' := 16) (x := 14) kc_174_15 rfl rfl ?_
      refine xi_iaload (pc' := 17) (v := 2) kc_174_16 rfl (F 83 _ hl_83) (by decide) rfl (xi_in (n := 24) (by decide) (by decide)) rfl ?_
      refine xi_iconst (pc' := 18) (v := 2) kc_174_17 rfl rfl ?_
      refine xi_cmf (pc' := 21) kc_174_18 rfl rfl ?_
      refine xi_iconst (pc' := 22) (v := 0) kc_174_21 rfl rfl ?_
      refine xi_goto (pc' := 26) kc_174_22 rfl ?_
      refine xi_iadd (pc' := 27) (v := 0) kc_174_26 rfl rfl ?_
      refine xi_istore_n (pc' := 28) (lv' := [(1, .int 0), (2, .int 14), (0, .ref 80)]) kc_174_27 rfl rfl (xm_lt ml_174 rfl) ?_
      refine xi_iinc (pc' := 31) (x := 14) (v := 15) (lv' := [(2, .int 15), (1, .int 0), (0, .ref 80)]) kc_174_28 rfl rfl rfl rfl (xm_lt ml_174 rfl) ?_
      refine xi_goto (pc' := 4) kc_174_31 rfl ?_
      refine xi_iload_n (pc' := 5) (x := 15) kc_174_4 rfl rfl ?_
      refine xi_bipush (pc' := 7) (v := 24) kc_174_5 rfl rfl ?_
      refine xi_cmf (pc' := 10) kc_174_7 rfl rfl ?_
      refine xi_iload_n (pc' := 11) (x := 0) kc_174_10 rfl rfl ?_
      refine xi_aload_n (pc' := 12) (x := 80) kc_174_11 rfl rfl ?_
      refine xi_getfield (pc' := 15) (v := .ref 83) kc_174_12 rfl rfl rfl (F 80 _ hl_80) rfl ?_
      refine xi_iload_n (pc' := 16) (x := 15) kc_174_15 rfl rfl ?_
      refine xi_iaload (pc' := 17) (v := 2) kc_174_16 rfl (F 83 _ hl_83) (by decide) rfl (xi_in (n := 24) (by decide) (by decide)) rfl ?_
      refine xi_iconst (pc' := 18) (v := 2) kc_174_17 rfl rfl ?_
      refine xi_cmf (pc' := 21) kc_174_18 rfl rfl ?_
      refine xi_iconst (pc' := 22) (v := 0) kc_174_21 rfl rfl ?_
      refine xi_goto (pc' := 26) kc_174_22 rfl ?_
      refine xi_iadd (pc' := 27) (v := 0) kc_174_26 rfl rfl ?_
      refine xi_istore_n (pc' := 28) (lv' := [(1, .int 0), (2, .int 15), (0, .ref 80)]) kc_174_27 rfl rfl (xm_lt ml_174 rfl) ?_
      refine xi_iinc (pc' := 31) (x := 15) (v := 16) (lv' := [(2, .int 16), (1, .int 0), (0, .ref 80)]) kc_174_28 rfl rfl rfl rfl (xm_lt ml_174 rfl) ?_
      refine xi_goto (pc' := 4) kc_174_31 rfl ?_
      refine xi_iload_n (pc' := 5) (x := 16) kc_174_4 rfl rfl ?_
      refine xi_bipush (pc' := 7) (v := 24) kc_174_5 rfl rfl ?_
      refine xi_cmf (pc' := 10) kc_174_7 rfl rfl ?_
      refine xi_iload_n (pc' := 11) (x := 0) kc_174_10 rfl rfl ?_
      refine xi_aload_n (pc' := 12) (x := 80) kc_174_11 rfl rfl ?_
      refine xi_getfield (pc' := 15) (v := .ref 83) kc_174_12 rfl rfl rfl (F 80 _ hl_80) rfl ?_
      refine xi_iload_n (pc' := 16) (x := 16) kc_174_15 rfl rfl ?_
      refine xi_iaload (pc' := 17) (v := 2) kc_174_16 rfl (F 83 _ hl_83) (by decide) rfl (xi_in (n := 24) (by decide) (by decide)) rfl ?_
      refine xi_iconst (pc' := 18) (v := 2) kc_174_17 rfl rfl ?_
      refine xi_cmf (pc' := 21) kc_174_18 rfl rfl ?_
      refine xi_iconst (pc' := 22) (v := 0) kc_174_21 rfl rfl ?_
      refine xi_goto (pc' := 26) kc_174_22 rfl ?_
      refine xi_iadd (pc' := 27) (v := 0) kc_174_26 rfl rfl ?_
      refine xi_istore_n (pc' := 28) (lv' := [(1, .int 0), (2, .int 16), (0, .ref 80)]) kc_174_27 rfl rfl (xm_lt ml_174 rfl) ?_
      refine xi_iinc (pc' := 31) (x := 16) (v := 17) (lv' := [(2, .int 17), (1, .int 0), (0, .ref 80)]) kc_174_28 rfl rfl rfl rfl (xm_lt ml_174 rfl) ?_
      refine xi_goto (pc' := 4) kc_174_31 rfl ?_
      refine xi_iload_n (pc' := 5) (x := 17) kc_174_4 rfl rfl ?_
      refine xi_bipush (pc' := 7) (v := 24) kc_174_5 rfl rfl ?_
      refine xi_cmf (pc' := 10) kc_174_7 rfl rfl ?_
      refine xi_iload_n (pc' := 11) (x := 0) kc_174_10 rfl rfl ?_
      refine xi_aload_n (pc' := 12) (x := 80) kc_174_11 rfl rfl ?_
      refine xi_getfield (pc' := 15) (v := .ref 83) kc_174_12 rfl rfl rfl (F 80 _ hl_80) rfl ?_
      refine xi_iload_n (pc' := 16) (x := 17) kc_174_15 rfl rfl ?_
      refine xi_iaload (pc' := 17) (v := 2) kc_174_16 rfl (F 83 _ hl_83) (by decide) rfl (xi_in (n := 24) (by decide) (by decide)) rfl ?_
      refine xi_iconst (pc' := 18) (v := 2) kc_174_17 rfl rfl ?_
      refine xi_cmf (pc' := 21) kc_174_18 rfl rfl ?_
      refine xi_iconst (pc' := 22) (v := 0) kc_174_21 rfl rfl ?_
      refine xi_goto (pc' := 26) kc_174_22 rfl ?_
      refine xi_iadd (pc' := 27) (v := 0) kc_174_26 rfl rfl ?_
      refine xi_istore_n (pc' := 28) (lv' := [(1, .int 0), (2, .int 17), (0, .ref 80)]) kc_174_27 rfl rfl (xm_lt ml_174 rfl) ?_
      refine xi_iinc (pc' := 31) (x := 17) (v := 18) (lv' := [(2, .int 18), (1, .int 0), (0, .ref 80)]) kc_174_28 rfl rfl rfl rfl (xm_lt ml_174 rfl) ?_
      refine xi_goto (pc' := 4) kc_174_31 rfl ?_
      refine xi_iload_n (pc' := 5) (x := 18) kc_174_4 rfl rfl ?_
      refine xi_bipush (pc' := 7) (v := 24) kc_174_5 rfl rfl ?_
      refine xi_cmf (pc' := 10) kc_174_7 rfl rfl ?_
      refine xi_iload_n (pc' := 11) (x := 0) kc_174_10 rfl rfl ?_
      refine xi_aload_n (pc' := 12) (x := 80) kc_174_11 rfl rfl ?_
      refine xi_getfield (pc' := 15) (v := .ref 83) kc_174_12 rfl rfl rfl (F 80 _ hl_80) rfl ?_
      refine xi_iload_n (pc' := 16) (x := 18) kc_174_15 rfl rfl ?_
      refine xi_iaload (pc' := 17) (v := 2) kc_174_16 rfl (F 83 _ hl_83) (by decide) rfl (xi_in (n := 24) (by decide) (by decide)) rfl ?_
      refine xi_iconst (pc' := 18) (v := 2) kc_174_17 rfl rfl ?_
      refine xi_cmf (pc' := 21) kc_174_18 rfl rfl ?_
      refine xi_iconst (pc' := 22) (v := 0) kc_174_21 rfl rfl ?_
      refine xi_goto (pc' := 26) kc_174_22 rfl ?_
      refine xi_iadd (pc' := 27) (v := 0) kc_174_26 rfl rfl ?_
      refine xi_istore_n (pc' := 28) (lv' := [(1, .int 0), (2, .int 18), (0, .ref 80)]) kc_174_27 rfl rfl (xm_lt ml_174 rfl) ?_
      refine xi_iinc (pc' := 31) (x := 18) (v := 19) (lv' := [(2, .int 19), (1, .int 0), (0, .ref 80)]) kc_174_28 rfl rfl rfl rfl (xm_lt ml_174 rfl) ?_
      refine xi_goto (pc' := 4) kc_174_31 rfl ?_
      refine xi_iload_n (pc' := 5) (x := 19) kc_174_4 rfl rfl ?_
      refine xi_bipush (pc' := 7) (v := 24) kc_174_5 rfl rfl ?_
      refine xi_cmf (pc' := 10) kc_174_7 rfl rfl ?_
      refine xi_iload_n (pc' := 11) (x := 0) kc_174_10 rfl rfl ?_
      refine xi_aload_n (pc' := 12) (x := 80) kc_174_11 rfl rfl ?_
      refine xi_getfield (pc' := 15) (v := .ref 83) kc_174_12 rfl rfl rfl (F 80 _ hl_80) rfl ?_
      refine xi_iload_n (pc' := 16) (x := 19) kc_174_15 rfl rfl ?_
      refine xi_iaload (pc' := 17) (v := 2) kc_174_16 rfl (F 83 _ hl_83) (by decide) rfl (xi_in (n := 24) (by decide) (by decide)) rfl ?_
      refine xi_iconst (pc' := 18) (v := 2) kc_174_17 rfl rfl ?_
      refine xi_cmf (pc' := 21) kc_174_18 rfl rfl ?_
      refine xi_iconst (pc' := 22) (v := 0) kc_174_21 rfl rfl ?_
      refine xi_goto (pc' := 26) kc_174_22 rfl ?_
      refine xi_iadd (pc' := 27) (v := 0) kc_174_26 rfl rfl ?_
      refine xi_istore_n (pc' := 28) (lv' := [(1, .int 0), (2, .int 19), (0, .ref 80)]) kc_174_27 rfl rfl (xm_lt ml_174 rfl) ?_
      refine xi_iinc (pc' := 31) (x := 19) (v := 20) (lv' := [(2, .int 20), (1, .int 0), (0, .ref 80)]) kc_174_28 rfl rfl rfl rfl (xm_lt ml_174 rfl) ?_
      refine xi_goto (pc' := 4) kc_174_31 rfl ?_
      refine xi_iload_n (pc' := 5) (x := 20) kc_174_4 rfl rfl ?_
      refine xi_bipush (pc' := 7) (v := 24) kc_174_5 rfl rfl ?_
      refine xi_cmf (pc' := 10) kc_174_7 rfl rfl ?_
      refine xi_iload_n (pc' := 11) (x := 0) kc_174_10 rfl rfl ?_
      refine xi_aload_n (pc' := 12) (x := 80) kc_174_11 rfl rfl ?_
      refine xi_getfield (pc' := 15) (v := .ref 83) kc_174_12 rfl rfl rfl (F 80 _ hl_80) rfl ?_
      refine xi_iload_n (pc' := 16) (x := 20) kc_174_15 rfl rfl ?_
      refine xi_iaload (pc' := 17) (v := 2) kc_174_16 rfl (F 83 _ hl_83) (by decide) rfl (xi_in (n := 24) (by decide) (by decide)) rfl ?_
      refine xi_iconst (pc' := 18) (v := 2) kc_174_17 rfl rfl ?_
      refine xi_cmf (pc' := 21) kc_174_18 rfl rfl ?_
      refine xi_iconst (pc' := 22) (v := 0) kc_174_21 rfl rfl ?_
      refine xi_goto (pc' := 26) kc_174_22 rfl ?_
      refine xi_iadd (pc' := 27) (v := 0) kc_174_26 rfl rfl ?_
      refine xi_istore_n (pc' := 28) (lv' := [(1, .int 0), (2, .int 20), (0, .ref 80)]) kc_174_27 rfl rfl (xm_lt ml_174 rfl) ?_
      refine xi_iinc (pc' := 31) (x := 20) (v := 21) (lv' := [(2, .int 21), (1, .int 0), (0, .ref 80)]) kc_174_28 rfl rfl rfl rfl (xm_lt ml_174 rfl) ?_
      refine xi_goto (pc' := 4) kc_174_31 rfl ?_
      refine xi_iload_n (pc' := 5) (x := 21) kc_174_4 rfl rfl ?_
      refine xi_bipush (pc' := 7) (v := 24) kc_174_5 rfl rfl ?_
      refine xi_cmf (pc' := 10) kc_174_7 rfl rfl ?_
      refine xi_iload_n (pc' := 11) (x := 0) kc_174_10 rfl rfl ?_
      refine xi_aload_n (pc' := 12) (x := 80) kc_174_11 rfl rfl ?_
      refine xi_getfield (pc' := 15) (v := .ref 83) kc_174_12 rfl rfl rfl (F 80 _ hl_80) rfl ?_
      refine xi_iload_n (pc' := 16) (x := 21) kc_174_15 rfl rfl ?_
      refine xi_iaload (pc' := 17) (v := 2) kc_174_16 rfl (F 83 _ hl_83) (by decide) rfl (xi_in (n := 24) (by decide) (by decide)) rfl ?_
      refine xi_iconst (pc' := 18) (v := 2) kc_174_17 rfl rfl ?_
      refine xi_cmf (pc' := 21) kc_174_18 rfl rfl ?_
      refine xi_iconst (pc' := 22) (v := 0) kc_174_21 rfl rfl ?_
      refine xi_goto (pc' := 26) kc_174_22 rfl ?_
      refine xi_iadd (pc' := 27) (v := 0) kc_174_26 rfl rfl ?_
      refine xi_istore_n (pc' := 28) (lv' := [(1, .int 0), (2, .int 21), (0, .ref 80)]) kc_174_27 rfl rfl (xm_lt ml_174 rfl) ?_
      refine xi_iinc (pc' := 31) (x := 21) (v := 22) (lv' := [(2, .int 22), (1, .int 0), (0, .ref 80)]) kc_174_28 rfl rfl rfl rfl (xm_lt ml_174 rfl) ?_
      refine xi_goto (pc' := 4) kc_174_31 rfl ?_
      refine xi_iload_n (pc' := 5) (x := 22) kc_174_4 rfl rfl ?_
      refine xi_bipush (pc' := 7) (v := 24) kc_174_5 rfl rfl ?_
      refine xi_cmf (pc' := 10) kc_174_7 rfl rfl ?_
      refine xi_iload_n (pc' := 11) (x := 0) kc_174_10 rfl rfl ?_
      refine xi_aload_n (pc' := 12) (x := 80) kc_174_11 rfl rfl ?_
      refine xi_getfield (pc' := 15) (v := .ref 83) kc_174_12 rfl rfl rfl (F 80 _ hl_80) rfl ?_
      refine xi_iload_n (pc' := 16) (x := 22) kc_174_15 rfl rfl ?_
      refine xi_iaload (pc' := 17) (v := 2) kc_174_16 rfl (F 83 _ hl_83) (by decide) rfl (xi_in (n := 24) (by decide) (by decide)) rfl ?_
      refine xi_iconst (pc' := 18) (v := 2) kc_174_17 rfl rfl ?_
      refine xi_cmf (pc' := 21) kc_174_18 rfl rfl ?_
      refine xi_iconst (pc' := 22) (v := 0) kc_174_21 rfl rfl ?_
      refine xi_goto (pc' := 26) kc_174_22 rfl ?_
      refine xi_iadd (pc' := 27) (v := 0) kc_174_26 rfl rfl ?_
      refine xi_istore_n (pc' := 28) (lv' := [(1, .int 0), (2, .int 22), (0, .ref 80)]) kc_174_27 rfl rfl (xm_lt ml_174 rfl) ?_
      refine xi_iinc (pc' := 31) (x := 22) (v := 23) (lv' := [(2, .int 23), (1, .int 0), (0, .ref 80)]) kc_174_28 rfl rfl rfl rfl (xm_lt ml_174 rfl) ?_
      refine xi_goto (pc' := 4) kc_174_31 rfl ?_
      refine xi_iload_n (pc' := 5) (x := 23) kc_174_4 rfl rfl ?_
      refine xi_bipush (pc' := 7) (v := 24) kc_174_5 rfl rfl ?_
      refine xi_cmf (pc' := 10) kc_174_7 rfl rfl ?_
      refine xi_iload_n (pc' := 11) (x := 0) kc_174_10 rfl rfl ?_
      refine xi_aload_n (pc' := 12) (x := 80) kc_174_11 rfl rfl ?_
      refine xi_getfield (pc' := 15) (v := .ref 83) kc_174_12 rfl rfl rfl (F 80 _ hl_80) rfl ?_
      refine xi_iload_n (pc' := 16) (x := 23) kc_174_15 rfl rfl ?_
      refine xi_iaload (pc' := 17) (v := 2) kc_174_16 rfl (F 83 _ hl_83) (by decide) rfl (xi_in (n := 24) (by decide) (by decide)) rfl ?_
      refine xi_iconst (pc' := 18) (v := 2) kc_174_17 rfl rfl ?_
      refine xi_cmf (pc' := 21) kc_174_18 rfl rfl ?_
      refine xi_iconst (pc' := 22) (v := 0) kc_174_21 rfl rfl ?_
      refine xi_goto (pc' := 26) kc_174_22 rfl ?_
      refine xi_iadd (pc' := 27) (v := 0) kc_174_26 rfl rfl ?_
      refine xi_istore_n (pc' := 28) (lv' := [(1, .int 0), (2, .int 23), (0, .ref 80)]) kc_174_27 rfl rfl (xm_lt ml_174 rfl) ?_
      refine xi_iinc (pc' := 31) (x := 23) (v := 24) (lv' := [(2, .int 24), (1, .int 0), (0, .ref 80)]) kc_174_28 rfl rfl rfl rfl (xm_lt ml_174 rfl) ?_
      refine xi_goto (pc' := 4) kc_174_31 rfl ?_
      refine xi_iload_n (pc' := 5) (x := 24) kc_174_4 rfl rfl ?_
      refine xi_bipush (pc' := 7) (v := 24) kc_174_5 rfl rfl ?_
      refine xi_cmt (pc' := 34) kc_174_7 rfl rfl ?_
      refine xi_iload_n (pc' := 35) (x := 0) kc_174_34 rfl rfl ?_
      refine xi_ireturn kc_174_35 mr_174 rfl ?_
      show xw J ov 99 173 (23, [(0, .ref 0), (1, .int a1)], [.int 0], h0) _
      refine xi_bipush (pc' := 25) (v := 16) kc_173_23 rfl rfl ?_
      refine xi_cmt (pc' := 35) kc_173_25 rfl rfl ?_
      refine xi_aload_n (pc' := 36) (x := 0) kc_173_35 rfl rfl ?_
      refine xi_getfield (pc' := 39) (v := .ref 80) kc_173_36 rfl rfl rfl (F 0 _ hl_0) rfl ?_
      refine xi_iload_n (pc' := 40) (x := a1) kc_173_39 rfl rfl ?_
      refine xi_ift (pc' := 53) kc_173_40 rfl (xc_ne_t (X := a1.toInt) (Y := 0) rfl (by decide) (by omega)) ?_
      refine xi_iconst (pc' := 54) (v := 0) kc_173_53 rfl rfl ?_
      refine xi_virtual (mj := 175) (as := [.int 0]) (st1 := []) (lv0 := [(0, .ref 80), (1, .int 0)]) kc_173_54 rfl rfl rfl rfl rfl (F 80 _ hl_80) (Nat.le_of_ble_eq_true rfl) (hJ _ _ _ _ (by decide)) (xm_le ml_175 rfl) rfl ?_
      refine xi_iconst (pc' := 1) (v := 0) kc_175_0 rfl rfl ?_
      refine xi_istore_n (pc' := 2) (lv' := [(2, .int 0), (0, .ref 80), (1, .int 0)]) kc_175_1 rfl rfl (xm_lt ml_175 rfl) ?_
      refine xi_iconst (pc' := 3) (v := 0) kc_175_2 rfl rfl ?_
      refine xi_istore_n (pc' := 4) (lv' := [(3, .int 0), (2, .int 0), (0, .ref 80), (1, .int 0)]) kc_175_3 rfl rfl (xm_lt ml_175 rfl) ?_
      refine xi_iconst (pc' := 5) (v := 0) kc_175_4 rfl rfl ?_
      refine xi_istore (pc' := 7) (lv' := [(4, .int 0), (3, .int 0), (2, .int 0), (0, .ref 80), (1, .int 0)]) kc_175_5 rfl rfl (xm_lt ml_175 rfl) ?_
      refine xi_iload (pc' := 9) (x := 0) kc_175_7 rfl rfl ?_
      refine xi_bipush (pc' := 11) (v := 24) kc_175_9 rfl rfl ?_
      refine xi_cmf (pc' := 14) kc_175_11 rfl rfl ?_
      refine xi_aload_n (pc' := 15) (x := 80) kc_175_14 rfl rfl ?_
      refine xi_getfield (pc' := 18) (v := .ref 83) kc_175_15 rfl rfl rfl (F 80 _ hl_80) rfl ?_
      refine xi_iload (pc' := 20) (x := 0) kc_175_18 rfl rfl ?_
      refine xi_iaload (pc' := 21) (v := 2) kc_175_20 rfl (F 83 _ hl_83) (by decide) rfl (xi_in (n := 24) (by decide) (by decide)) rfl ?_
      refine xi_iconst (pc' := 22) (v := 2) kc_175_21 rfl rfl ?_
      refine xi_cmt (pc' := 56) kc_175_22 rfl rfl ?_
      refine xi_iinc (pc' := 59) (x := 0) (v := 1) (lv' := [(4, .int 1), (3, .int 0), (2, .int 0), (0, .ref 80), (1, .int 0)]) kc_175_56 rfl rfl rfl rfl (xm_lt ml_175 rfl) ?_
      refine xi_goto (pc' := 7) kc_175_59 rfl ?_
      refine xi_iload (pc' := 9) (x := 1) kc_175_7 rfl rfl ?_
      refine xi_bipush (pc' := 11) (v := 24) kc_175_9 rfl rfl ?_
      refine xi_cmf (pc' := 14) kc_175_11 rfl rfl ?_
      refine xi_aload_n (pc' := 15) (x := 80) kc_175_14 rfl rfl ?_
      refine xi_getfield (pc' := 18) (v := .ref 83) kc_175_15 rfl rfl rfl (F 80 _ hl_80) rfl ?_
      refine xi_iload (pc' := 20) (x := 1) kc_175_18 rfl rfl ?_
      refine xi_iaload (pc' := 21) (v := 2) kc_175_20 rfl (F 83 _ hl_83) (by decide) rfl (xi_in (n := 24) (by decide) (by decide)) rfl ?_
      refine xi_iconst (pc' := 22) (v := 2) kc_175_21 rfl rfl ?_
      refine xi_cmt (pc' := 56) kc_175_22 rfl rfl ?_
      refine xi_iinc (pc' := 59) (x := 1) (v := 2) (lv' := [(4, .int 2), (3, .int 0), (2, .int 0), (0, .ref 80), (1, .int 0)]) kc_175_56 rfl rfl rfl rfl (xm_lt ml_175 rfl) ?_
      refine xi_goto (pc' := 7) kc_175_59 rfl ?_
      refine xi_iload (pc' := 9) (x := 2) kc_175_7 rfl rfl ?_
      refine xi_bipush (pc' := 11) (v := 24) kc_175_9 rfl rfl ?_
      refine xi_cmf (pc' := 14) kc_175_11 rfl rfl ?_
      refine xi_aload_n (pc' := 15) (x := 80) kc_175_14 rfl rfl ?_
      refine xi_getfield (pc' := 18) (v := .ref 83) kc_175_15 rfl rfl rfl (F 80 _ hl_80) rfl ?_
      refine xi_iload (pc' := 20) (x := 2) kc_175_18 rfl rfl ?_
      refine xi_iaload (pc' := 21) (v := 2) kc_175_20 rfl (F 83 _ hl_83) (by decide) rfl (xi_in (n := 24) (by decide) (by decide)) rfl ?_
      refine xi_iconst (pc' := 22) (v := 2) kc_175_21 rfl rfl ?_
      refine xi_cmt (pc' := 56) kc_175_22 rfl rfl ?_
      refine xi_iinc (pc' := 59) (x := 2) (v := 3) (lv' := [(4, .int 3), (3, .int 0), (2, .int 0), (0, .ref 80), (1, .int 0)]) kc_175_56 rfl rfl rfl rfl (xm_lt ml_175 rfl) ?_
      refine xi_goto (pc' := 7) kc_175_59 rfl ?_
      refine xi_iload (pc' := 9) (x := 3) kc_175_7 rfl rfl ?_
      refine xi_bipush (pc' := 11) (v := 24) kc_175_9 rfl rfl ?_
      refine xi_cmf (pc' := 14) kc_175_11 rfl rfl ?_
      refine xi_aload_n (pc' := 15) (x := 80) kc_175_14 rfl rfl ?_
      refine xi_getfield (pc' := 18) (v := .ref 83) kc_175_15 rfl rfl rfl (F 80 _ hl_80) rfl ?_
      refine xi_iload (pc' := 20) (x := 3) kc_175_18 rfl rfl ?_
      refine xi_iaload (pc' := 21) (v := 2) kc_175_20 rfl (F 83 _ hl_83) (by decide) rfl (xi_in (n := 24) (by decide) (by decide)) rfl ?_
      refine xi_iconst (pc' := 22) (v := 2) kc_175_21 rfl rfl ?_
      refine xi_cmt (pc' := 56) kc_175_22 rfl rfl ?_
      refine xi_iinc (pc' := 59) (x := 3) (v := 4) (lv' := [(4, .int 4), (3, .int 0), (2, .int 0), (0, .ref 80), (1, .int 0)]) kc_175_56 rfl rfl rfl rfl (xm_lt ml_175 rfl) ?_
      refine xi_goto (pc' := 7) kc_175_59 rfl ?_
      refine xi_iload (pc' := 9) (x := 4) kc_175_7 rfl rfl ?_
      refine xi_bipush (pc' := 11) (v := 24) kc_175_9 rfl rfl ?_
      refine xi_cmf (pc' := 14) kc_175_11 rfl rfl ?_
      refine xi_aload_n (pc' := 15) (x := 80) kc_175_14 rfl rfl ?_
      refine xi_getfield (pc' := 18) (v := .ref 83) kc_175_15 rfl rfl rfl (F 80 _ hl_80) rfl ?_
      refine xi_iload (pc' := 20) (x := 4) kc_175_18 rfl rfl ?_
      refine xi_iaload (pc' := 21) (v := 2) kc_175_20 rfl (F 83 _ hl_83) (by decide) rfl (xi_in (n := 24) (by decide) (by decide)) rfl ?_
      refine xi_iconst (pc' := 22) (v := 2) kc_175_21 rfl rfl ?_
      refine xi_cmt (pc' := 56) kc_175_22 rfl rfl ?_
      refine xi_iinc (pc' := 59) (x := 4) (v := 5) (lv' := [(4, .int 5), (3, .int 0), (2, .int 0), (0, .ref 80), (1, .int 0)]) kc_175_56 rfl rfl rfl rfl (xm_lt ml_175 rfl) ?_
      refine xi_goto (pc' := 7) kc_175_59 rfl ?_
      refine xi_iload (pc' := 9) (x := 5) kc_175_7 rfl rfl ?_
      refine xi_bipush (pc' := 11) (v := 24) kc_175_9 rfl rfl ?_
      refine xi_cmf (pc' := 14) kc_175_11 rfl rfl ?_
      refine xi_aload_n (pc' := 15) (x := 80) kc_175_14 rfl rfl ?_
      refine xi_getfield (pc' := 18) (v := .ref 83) kc_175_15 rfl rfl rfl (F 80 _ hl_80) rfl ?_
      refine xi_iload (pc' := 20) (x := 5) kc_175_18 rfl rfl ?_
      refine xi_iaload (pc' := 21) (v := 2) kc_175_20 rfl (F 83 _ hl_83) (by decide) rfl (xi_in (n := 24) (by decide) (by decide)) rfl ?_
      refine xi_iconst (pc' := 22) (v := 2) kc_175_21 rfl rfl ?_
      refine xi_cmt (pc' := 56) kc_175_22 rfl rfl ?_
      refine xi_iinc (pc' := 59) (x := 5) (v := 6) (lv' := [(4, .int 6), (3, .int 0), (2, .int 0), (0, .ref 80), (1, .int 0)]) kc_175_56 rfl rfl rfl rfl (xm_lt ml_175 rfl) ?_
      refine xi_goto (pc' := 7) kc_175_59 rfl ?_
      refine xi_iload (pc' := 9) (x := 6) kc_175_7 rfl rfl ?_
      refine xi_bipush (pc' := 11) (v := 24) kc_175_9 rfl rfl ?_
      refine xi_cmf (pc' := 14) kc_175_11 rfl rfl ?_
      refine xi_aload_n (pc' := 15) (x := 80) kc_175_14 rfl rfl ?_
      refine xi_getfield (pc' := 18) (v := .ref 83) kc_175_15 rfl rfl rfl (F 80 _ hl_80) rfl ?_
      refine xi_iload (pc' := 20) (x := 6) kc_175_18 rfl rfl ?_
      refine xi_iaload (pc' := 21) (v := 2) kc_175_20 rfl (F 83 _ hl_83) (by decide) rfl (xi_in (n := 24) (by decide) (by decide)) rfl ?_
      refine xi_iconst (pc' := 22) (v := 2) kc_175_21 rfl rfl ?_
      refine xi_cmt (pc' := 56) kc_175_22 rfl rfl ?_
      refine xi_iinc (pc' := 59) (x := 6) (v := 7) (lv' := [(4, .int 7), (3, .int 0), (2, .int 0), (0, .ref 80), (1, .int 0)]) kc_175_56 rfl rfl rfl rfl (xm_lt ml_175 rfl) ?_
      refine xi_goto (pc' := 7) kc_175_59 rfl ?_
      refine xi_iload (pc' := 9) (x := 7) kc_175_7 rfl rfl ?_
      refine xi_bipush (pc' := 11) (v := 24) kc_175_9 rfl rfl ?_
      refine xi_cmf (pc' := 14) kc_175_11 rfl rfl ?_
      refine xi_aload_n (pc' := 15) (x := 80) kc_175_14 rfl rfl ?_
      refine xi_getfield (pc' := 18) (v := .ref 83) kc_175_15 rfl rfl rfl (F 80 _ hl_80) rfl ?_
      refine xi_iload (pc' := 20) (x := 7) kc_175_18 rfl rfl ?_
      refine xi_iaload (pc' := 21) (v := 2) kc_175_20 rfl (F 83 _ hl_83) (by decide) rfl (xi_in (n := 24) (by decide) (by decide)) rfl ?_
      refine xi_iconst (pc' := 22) (v := 2) kc_175_21 rfl rfl ?_
      refine xi_cmt (pc' := 56) kc_175_22 rfl rfl ?_
      refine xi_iinc (pc' := 59) (x := 7) (v := 8) (lv' := [(4, .int 8), (3, .int 0), (2, .int 0), (0, .ref 80), (1, .int 0)]) kc_175_56 rfl rfl rfl rfl (xm_lt ml_175 rfl) ?_
      refine xi_goto (pc' := 7) kc_175_59 rfl ?_
      refine xi_iload (pc' := 9) (x := 8) kc_175_7 rfl rfl ?_
      refine xi_bipush (pc' := 11) (v := 24) kc_175_9 rfl rfl ?_
      refine xi_cmf (pc' := 14) kc_175_11 rfl rfl ?_
      refine xi_aload_n (pc' := 15) (x := 80) kc_175_14 rfl rfl ?_
      refine xi_getfield (pc' := 18) (v := .ref 83) kc_175_15 rfl rfl rfl (F 80 _ hl_80) rfl ?_
      refine xi_iload (pc' := 20) (x := 8) kc_175_18 rfl rfl ?_
      refine xi_iaload (pc' := 21) (v := 2) kc_175_20 rfl (F 83 _ hl_83) (by decide) rfl (xi_in (n := 24) (by decide) (by decide)) rfl ?_
      refine xi_iconst (pc' := 22) (v := 2) kc_175_21 rfl rfl ?_
      refine xi_cmt (pc' := 56) kc_175_22 rfl rfl ?_
      refine xi_iinc (pc' := 59) (x := 8) (v := 9) (lv' := [(4, .int 9), (3, .int 0), (2, .int 0), (0, .ref 80), (1, .int 0)]) kc_175_56 rfl rfl rfl rfl (xm_lt ml_175 rfl) ?_
      refine xi_goto (pc' := 7) kc_175_59 rfl ?_
      refine xi_iload (pc' := 9) (x := 9) kc_175_7 rfl rfl ?_
      refine xi_bipush (pc' := 11) (v := 24) kc_175_9 rfl rfl ?_
      refine xi_cmf (pc' := 14) kc_175_11 rfl rfl ?_
      refine xi_aload_n (pc' := 15) (x := 80) kc_175_14 rfl rfl ?_
      refine xi_getfield (pc' := 18) (v := .ref 83) kc_175_15 rfl rfl rfl (F 80 _ hl_80) rfl ?_
      refine xi_iload (pc' := 20) (x := 9) kc_175_18 rfl rfl ?_
      refine xi_iaload (pc' := 21) (v := 2) kc_175_20 rfl (F 83 _ hl_83) (by decide) rfl (xi_in (n := 24) (by decide) (by decide)) rfl ?_
      refine xi_iconst (pc' := 22) (v := 2) kc_175_21 rfl rfl ?_
      refine xi_cmt (pc' := 56) kc_175_22 rfl rfl ?_
      refine xi_iinc (pc' := 59) (x := 9) (v := 10) (lv' := [(4, .int 10), (3, .int 0), (2, .int 0), (0, .ref 80), (1, .int 0)]) kc_175_56 rfl rfl rfl rfl (xm_lt ml_175 rfl) ?_
      refine xi_goto (pc' := 7) kc_175_59 rfl ?_
      refine xi_iload (pc' := 9) (x := 10) kc_175_7 rfl rfl ?_
      refine xi_bipush (pc' := 11) (v := 24) kc_175_9 rfl rfl ?_
      refine xi_cmf (pc' := 14) kc_175_11 rfl rfl ?_
      refine xi_aload_n (pc' := 15) (x := 80) kc_175_14 rfl rfl ?_
      refine xi_getfield (pc' := 18) (v := .ref 83) kc_175_15 rfl rfl rfl (F 80 _ hl_80) rfl ?_
      refine xi_iload (pc' := 20) (x := 10) kc_175_18 rfl rfl ?_
      refine xi_iaload (pc' := 21) (v := 2) kc_175_20 rfl (F 83 _ hl_83) (by decide) rfl (xi_in (n := 24) (by decide) (by decide)) rfl ?_
      refine xi_iconst (pc' := 22) (v := 2) kc_175_21 rfl rfl ?_
      refine xi_cmt (pc' := 56) kc_175_22 rfl rfl ?_
      refine xi_iinc (pc' := 59) (x := 10) (v := 11) (lv' := [(4, .int 11), (3, .int 0), (2, .int 0), (0, .ref 80), (1, .int 0)]) kc_175_56 rfl rfl rfl rfl (xm_lt ml_175 rfl) ?_
      refine xi_goto (pc' := 7) kc_175_59 rfl ?_
      refine xi_iload (pc' := 9) (x := 11) kc_175_7 rfl rfl ?_
      refine xi_bipush (pc' := 11) (v := 24) kc_175_9 rfl rfl ?_
      refine xi_cmf (pc' := 14) kc_175_11 rfl rfl ?_
      refine xi_aload_n (pc' := 15) (x := 80) kc_175_14 rfl rfl ?_
      refine xi_getfield (pc' := 18) (v := .ref 83) kc_175_15 rfl rfl rfl (F 80 _ hl_80) rfl ?_
      refine xi_iload (pc' := 20) (x := 11) kc_175_18 rfl rfl ?_
      refine xi_iaload (pc' := 21) (v := 2) kc_175_20 rfl (F 83 _ hl_83) (by decide) rfl (xi_in (n := 24) (by decide) (by decide)) rfl ?_
      refine xi_iconst (pc' := 22) (v := 2) kc_175_21 rfl rfl ?_
      refine xi_cmt (pc' := 56) kc_175_22 rfl rfl ?_
      refine xi_iinc (pc' := 59) (x := 11) (v := 12) (lv' := [(4, .int 12), (3, .int 0), (2, .int 0), (0, .ref 80), (1, .int 0)]) kc_175_56 rfl rfl rfl rfl (xm_lt ml_175 rfl) ?_
      refine xi_goto (pc' := 7) kc_175_59 rfl ?_
      refine xi_iload (pc' := 9) (x := 12) kc_175_7 rfl rfl ?_
      refine xi_bipush (pc' := 11) (v := 24) kc_175_9 rfl rfl ?_
      refine xi_cmf (pc' := 14) kc_175_11 rfl rfl ?_
      refine xi_aload_n (pc' := 15) (x := 80) kc_175_14 rfl rfl ?_
      refine xi_getfield (pc' := 18) (v := .ref 83) kc_175_15 rfl rfl rfl (F 80 _ hl_80) rfl ?_
      refine xi_iload (pc' := 20) (x := 12) kc_175_18 rfl rfl ?_
      refine xi_iaload (pc' := 21) (v := 2) kc_175_20 rfl (F 83 _ hl_83) (by decide) rfl (xi_in (n := 24) (by decide) (by decide)) rfl ?_
      refine xi_iconst (pc' := 22) (v := 2) kc_175_21 rfl rfl ?_
      refine xi_cmt (pc' := 56) kc_175_22 rfl rfl ?_
      refine xi_iinc (pc' := 59) (x := 12) (v := 13) (lv' := [(4, .int 13), (3, .int 0), (2, .int 0), (0, .ref 80), (1, .int 0)]) kc_175_56 rfl rfl rfl rfl (xm_lt ml_175 rfl) ?_
      refine xi_goto (pc' := 7) kc_175_59 rfl ?_
      refine xi_iload (pc' := 9) (x := 13) kc_175_7 rfl rfl ?_
      refine xi_bipush (pc' := 11) (v := 24) kc_175_9 rfl rfl ?_
      refine xi_cmf (pc' := 14) kc_175_11 rfl rfl ?_
      refine xi_aload_n (pc' := 15) (x := 80) kc_175_14 rfl rfl ?_
      refine xi_getfield (pc' := 18) (v := .ref 83) kc_175_15 rfl rfl rfl (F 80 _ hl_80) rfl ?_
      refine xi_iload (pc' := 20) (x := 13) kc_175_18 rfl rfl ?_
      refine xi_iaload (pc' := 21) (v := 2) kc_175_20 rfl (F 83 _ hl_83) (by decide) rfl (xi_in (n := 24) (by decide) (by decide)) rfl ?_
      refine xi_iconst (pc' := 22) (v := 2) kc_175_21 rfl rfl ?_
      refine xi_cmt (pc' := 56) kc_175_22 rfl rfl ?_
      refine xi_iinc (pc' := 59) (x := 13) (v := 14) (lv' := [(4, .int 14), (3, .int 0), (2, .int 0), (0, .ref 80), (1, .int 0)]) kc_175_56 rfl rfl rfl rfl (xm_lt ml_175 rfl) ?_
      refine xi_goto (pc' := 7) kc_175_59 rfl ?_
      refine xi_iload (pc' := 9) (x := 14) kc_175_7 rfl rfl ?_
      refine xi_bipush (pc' := 11) (v := 24) kc_175_9 rfl rfl ?_
      refine xi_cmf (pc' := 14) kc_175_11 rfl rfl ?_
      refine xi_aload_n (pc' := 15) (x := 80) kc_175_14 rfl rfl ?_
      refine xi_getfield (pc' := 18) (v := .ref 83) kc_175_15 rfl rfl rfl (F 80 _ hl_80) rfl ?_
      refine xi_iload (pc' := 20) (x := 14) kc_175_18 rfl rfl ?_
      refine xi_iaload (pc' := 21) (v := 2) kc_175_20 rfl (F 83 _ hl_83) (by decide) rfl (xi_in (n := 24) (by decide) (by decide)) rfl ?_
      refine xi_iconst (pc' := 22) (v := 2) kc_175_21 rfl rfl ?_
      refine xi_cmt (pc' := 56) kc_175_22 rfl rfl ?_
      refine xi_iinc (pc' := 59) (x := 14) (v := 15) (lv' := [(4, .int 15), (3, .int 0), (2, .int 0), (0, .ref 80), (1, .int 0)]) kc_175_56 rfl rfl rfl rfl (xm_lt ml_175 rfl) ?_
      refine xi_goto (pc' := 7) kc_175_59 rfl ?_
      refine xi_iload (pc' := 9) (x := 15) kc_175_7 rfl rfl ?_
      refine xi_bipush (pc' := 11) (v := 24) kc_175_9 rfl rfl ?_
      refine xi_cmf (pc' := 14) kc_175_11 rfl rfl ?_
      refine xi_aload_n (pc' := 15) (x := 80) kc_175_14 rfl rfl ?_
      refine xi_getfield (pc' := 18) (v := .ref 83) kc_175_15 rfl rfl rfl (F 80 _ hl_80) rfl ?_
      refine xi_iload (pc' := 20) (x := 15) kc_175_18 rfl rfl ?_
      refine xi_iaload (pc' := 21) (v := 2) kc_175_20 rfl (F 83 _ hl_83) (by decide) rfl (xi_in (n := 24) (by decide) (by decide)) rfl ?_
      refine xi_iconst (pc' := 22) (v := 2) kc_175_21 rfl rfl ?_
      refine xi_cmt (pc' := 56) kc_175_22 rfl rfl ?_
      refine xi_iinc (pc' := 59) (x := 15) (v := 16) (lv' := [(4, .int 16), (3, .int 0), (2, .int 0), (0, .ref 80), (1, .int 0)]) kc_175_56 rfl rfl rfl rfl (xm_lt ml_175 rfl) ?_
      refine xi_goto (pc' := 7) kc_175_59 rfl ?_
      refine xi_iload (pc' := 9) (x := 16) kc_175_7 rfl rfl ?_
      refine xi_bipush (pc' := 11) (v := 24) kc_175_9 rfl rfl ?_
      refine xi_cmf (pc' := 14) kc_175_11 rfl rfl ?_
      refine xi_aload_n (pc' := 15) (x := 80) kc_175_14 rfl rfl ?_
      refine xi_getfield (pc' := 18) (v := .ref 83) kc_175_15 rfl rfl rfl (F 80 _ hl_80) rfl ?_
      refine xi_iload (pc' := 20) (x := 16) kc_175_18 rfl rfl ?_
      refine xi_iaload (pc' := 21) (v := 2) kc_175_20 rfl (F 83 _ hl_83) (by decide) rfl (xi_in (n := 24) (by decide) (by decide)) rfl ?_
      refine xi_iconst (pc' := 22) (v := 2) kc_175_21 rfl rfl ?_
      refine xi_cmt (pc' := 56) kc_175_22 rfl rfl ?_
      refine xi_iinc (pc' := 59) (x := 16) (v := 17) (lv' := [(4, .int 17), (3, .int 0), (2, .int 0), (0, .ref 80), (1, .int 0)]) kc_175_56 rfl rfl rfl rfl (xm_lt ml_175 rfl) ?_
      refine xi_goto (pc' := 7) kc_175_59 rfl ?_
      refine xi_iload (pc' := 9) (x := 17) kc_175_7 rfl rfl ?_
      refine xi_bipush (pc' := 11) (v := 24) kc_175_9 rfl rfl ?_
      refine xi_cmf (pc' := 14) kc_175_11 rfl rfl ?_
      refine xi_aload_n (pc' := 15) (x := 80) kc_175_14 rfl rfl ?_
      refine xi_getfield (pc' := 18) (v := .ref 83) kc_175_15 rfl rfl rfl (F 80 _ hl_80) rfl ?_
      refine xi_iload (pc' := 20) (x := 17) kc_175_18 rfl rfl ?_
      refine xi_iaload (pc' := 21) (v := 2) kc_175_20 rfl (F 83 _ hl_83) (by decide) rfl (xi_in (n := 24) (by decide) (by decide)) rfl ?_
      refine xi_iconst (pc' := 22) (v := 2) kc_175_21 rfl rfl ?_
      refine xi_cmt (pc' := 56) kc_175_22 rfl rfl ?_
      refine xi_iinc (pc' := 59) (x := 17) (v := 18) (lv' := [(4, .int 18), (3, .int 0), (2, .int 0), (0, .ref 80), (1, .int 0)]) kc_175_56 rfl rfl rfl rfl (xm_lt ml_175 rfl) ?_
      refine xi_goto (pc' := 7) kc_175_59 rfl ?_
      refine xi_iload (pc' := 9) (x := 18) kc_175_7 rfl rfl ?_
      refine xi_bipush (pc' := 11) (v := 24) kc_175_9 rfl rfl ?_
      refine xi_cmf (pc' := 14) kc_175_11 rfl rfl ?_
      refine xi_aload_n (pc' := 15) (x := 80) kc_175_14 rfl rfl ?_
      refine xi_getfield (pc' := 18) (v := .ref 83) kc_175_15 rfl rfl rfl (F 80 _ hl_80) rfl ?_
      refine xi_iload (pc' := 20) (x := 18) kc_175_18 rfl rfl ?_
      refine xi_iaload (pc' := 21) (v := 2) kc_175_20 rfl (F 83 _ hl_83) (by decide) rfl (xi_in (n := 24) (by decide) (by decide)) rfl ?_
      refine xi_iconst (pc' := 22) (v := 2) kc_175_21 rfl rfl ?_
      refine xi_cmt (pc' := 56) kc_175_22 rfl rfl ?_
      refine xi_iinc (pc' := 59) (x := 18) (v := 19) (lv' := [(4, .int 19), (3, .int 0), (2, .int 0), (0, .ref 80), (1, .int 0)]) kc_175_56 rfl rfl rfl rfl (xm_lt ml_175 rfl) ?_
      refine xi_goto (pc' := 7) kc_175_59 rfl ?_
      refine xi_iload (pc' := 9) (x := 19) kc_175_7 rfl rfl ?_
      refine xi_bipush (pc' := 11) (v := 24) kc_175_9 rfl rfl ?_
      refine xi_cmf (pc' := 14) kc_175_11 rfl rfl ?_
      refine xi_aload_n (pc' := 15) (x := 80) kc_175_14 rfl rfl ?_
      refine xi_getfield (pc' := 18) (v := .ref 83) kc_175_15 rfl rfl rfl (F 80 _ hl_80) rfl ?_
      refine xi_iload (pc' := 20) (x := 19) kc_175_18 rfl rfl ?_
      refine xi_iaload (pc' := 21) (v := 2) kc_175_20 rfl (F 83 _ hl_83) (by decide) rfl (xi_in (n := 24) (by decide) (by decide)) rfl ?_
      refine xi_iconst (pc' := 22) (v := 2) kc_175_21 rfl rfl ?_
      refine xi_cmt (pc' := 56) kc_175_22 rfl rfl ?_
      refine xi_iinc (pc' := 59) (x := 19) (v := 20) (lv' := [(4, .int 20), (3, .int 0), (2, .int 0), (0, .ref 80), (1, .int 0)]) kc_175_56 rfl rfl rfl rfl (xm_lt ml_175 rfl) ?_
      refine xi_goto (pc' := 7) kc_175_59 rfl ?_
      refine xi_iload (pc' := 9) (x := 20) kc_175_7 rfl rfl ?_
      refine xi_bipush (pc' := 11) (v := 24) kc_175_9 rfl rfl ?_
      refine xi_cmf (pc' := 14) kc_175_11 rfl rfl ?_
      refine xi_aload_n (pc' := 15) (x := 80) kc_175_14 rfl rfl ?_
      refine xi_getfield (pc' := 18) (v := .ref 83) kc_175_15 rfl rfl rfl (F 80 _ hl_80) rfl ?_
      refine xi_iload (pc' := 20) (x := 20) kc_175_18 rfl rfl ?_
      refine xi_iaload (pc' := 21) (v := 2) kc_175_20 rfl (F 83 _ hl_83) (by decide) rfl (xi_in (n := 24) (by decide) (by decide)) rfl ?_
      refine xi_iconst (pc' := 22) (v := 2) kc_175_21 rfl rfl ?_
      refine xi_cmt (pc' := 56) kc_175_22 rfl rfl ?_
      refine xi_iinc (pc' := 59) (x := 20) (v := 21) (lv' := [(4, .int 21), (3, .int 0), (2, .int 0), (0, .ref 80), (1, .int 0)]) kc_175_56 rfl rfl rfl rfl (xm_lt ml_175 rfl) ?_
      refine xi_goto (pc' := 7) kc_175_59 rfl ?_
      refine xi_iload (pc' := 9) (x := 21) kc_175_7 rfl rfl ?_
      refine xi_bipush (pc' := 11) (v := 24) kc_175_9 rfl rfl ?_
      refine xi_cmf (pc' := 14) kc_175_11 rfl rfl ?_
      refine xi_aload_n (pc' := 15) (x := 80) kc_175_14 rfl rfl ?_
      refine xi_getfield (pc' := 18) (v := .ref 83) kc_175_15 rfl rfl rfl (F 80 _ hl_80) rfl ?_
      refine xi_iload (pc' := 20) (x := 21) kc_175_18 rfl rfl ?_
      refine xi_iaload (pc' := 21) (v := 2) kc_175_20 rfl (F 83 _ hl_83) (by decide) rfl (xi_in (n := 24) (by decide) (by decide)) rfl ?_
      refine xi_iconst (pc' := 22) (v := 2) kc_175_21 rfl rfl ?_
      refine xi_cmt (pc' := 56) kc_175_22 rfl rfl ?_
      refine xi_iinc (pc' := 59) (x := 21) (v := 22) (lv' := [(4, .int 22), (3, .int 0), (2, .int 0), (0, .ref 80), (1, .int 0)]) kc_175_56 rfl rfl rfl rfl (xm_lt ml_175 rfl) ?_
      refine xi_goto (pc' := 7) kc_175_59 rfl ?_
      refine xi_iload (pc' := 9) (x := 22) kc_175_7 rfl rfl ?_
      refine xi_bipush (pc' := 11) (v := 24) kc_175_9 rfl rfl ?_
      refine xi_cmf (pc' := 14) kc_175_11 rfl rfl ?_
      refine xi_aload_n (pc' := 15) (x := 80) kc_175_14 rfl rfl ?_
      refine xi_getfield (pc' := 18) (v := .ref 83) kc_175_15 rfl rfl rfl (F 80 _ hl_80) rfl ?_
      refine xi_iload (pc' := 20) (x := 22) kc_175_18 rfl rfl ?_
      refine xi_iaload (pc' := 21) (v := 2) kc_175_20 rfl (F 83 _ hl_83) (by decide) rfl (xi_in (n := 24) (by decide) (by decide)) rfl ?_
      refine xi_iconst (pc' := 22) (v := 2) kc_175_21 rfl rfl ?_
      refine xi_cmt (pc' := 56) kc_175_22 rfl rfl ?_
      refine xi_iinc (pc' := 59) (x := 22) (v := 23) (lv' := [(4, .int 23), (3, .int 0), (2, .int 0), (0, .ref 80), (1, .int 0)]) kc_175_56 rfl rfl rfl rfl (xm_lt ml_175 rfl) ?_
      refine xi_goto (pc' := 7) kc_175_59 rfl ?_
      refine xi_iload (pc' := 9) (x := 23) kc_175_7 rfl rfl ?_
      refine xi_bipush (pc' := 11) (v := 24) kc_175_9 rfl rfl ?_
      refine xi_cmf (pc' := 14) kc_175_11 rfl rfl ?_
      refine xi_aload_n (pc' := 15) (x := 80) kc_175_14 rfl rfl ?_
      refine xi_getfield (pc' := 18) (v := .ref 83) kc_175_15 rfl rfl rfl (F 80 _ hl_80) rfl ?_
      refine xi_iload (pc' := 20) (x := 23) kc_175_18 rfl rfl ?_
      refine xi_iaload (pc' := 21) (v := 2) kc_175_20 rfl (F 83 _ hl_83) (by decide) rfl (xi_in (n := 24) (by decide) (by decide)) rfl ?_
      refine xi_iconst (pc' := 22) (v := 2) kc_175_21 rfl rfl ?_
      refine xi_cmt (pc' := 56) kc_175_22 rfl rfl ?_
      refine xi_iinc (pc' := 59) (x := 23) (v := 24) (lv' := [(4, .int 24), (3, .int 0), (2, .int 0), (0, .ref 80), (1, .int 0)]) kc_175_56 rfl rfl rfl rfl (xm_lt ml_175 rfl) ?_
      refine xi_goto (pc' := 7) kc_175_59 rfl ?_
      refine xi_iload (pc' := 9) (x := 24) kc_175_7 rfl rfl ?_
      refine xi_bipush (pc' := 11) (v := 24) kc_175_9 rfl rfl ?_
      refine xi_cmt (pc' := 62) kc_175_11 rfl rfl ?_
      refine xi_aload_n (pc' := 63) (x := 80) kc_175_62 rfl rfl ?_
      refine xi_iconst (pc' := 64) (v := 0) kc_175_63 rfl rfl ?_
      refine xi_iload_n (pc' := 65) (x := 0) kc_175_64 rfl rfl ?_
      refine xi_iload_n (pc' := 66) (x := 0) kc_175_65 rfl rfl ?_
      refine xi_iconst (pc' := 67) (v := 0) kc_175_66 rfl rfl ?_
      refine xi_iload_n (pc' := 68) (x := 0) kc_175_67 rfl rfl ?_
      refine xi_virtual (mj := 177) (as := [.int 0, .int 0, .int 0, .int 0, .int 0]) (st1 := []) (lv0 := [(0, .ref 80), (1, .int 0), (2, .int 0), (3, .int 0), (4, .int 0), (5, .int 0)]) kc_175_68 rfl rfl rfl rfl rfl (F 80 _ hl_80) (Nat.le_of_ble_eq_true rfl) (hJ _ _ _ _ (by decide)) (xm_le ml_177 rfl) rfl ?_
      refine xi_iload_n (pc' := 1) (x := 0) kc_177_0 rfl rfl ?_
      refine xi_iff (pc' := 4) kc_177_1 rfl rfl ?_
      refine xi_iload (pc' := 6) (x := 0) kc_177_4 rfl rfl ?_
      refine xi_iff (pc' := 9) kc_177_6 rfl rfl ?_
      refine xi_iconst (pc' := 10) (v := 1) kc_177_9 rfl rfl ?_
      refine xi_goto (pc' := 14) kc_177_10 rfl ?_
      refine xi_ireturn kc_177_14 mr_177 rfl ?_
      show xw J ov 98 175 (71, [(4, .int 24), (3, .int 0), (2, .int 0), (0, .ref 80), (1, .int 0)], [.int 1], h0) _
      refine xi_ireturn kc_175_71 mr_175 rfl ?_
      show xw J ov 99 173 (57, [(0, .ref 0), (1, .int a1)], [.int 1], h0) _
      refine xi_ireturn kc_173_57 mr_173 rfl ?_
      show xw J ov 100 196 (1243, [(4, .int 0), (3, .ref 167), (2, .ref 115), (1, .ref 0), (0, .ref 1000000)], [.int 1], h0) _
      refine xi_aload_n (pc' := 1244) (x := 115) kc_196_1243 rfl rfl ?_
      refine xi_aload_n (pc' := 1245) (x := 1000000) kc_196_1244 rfl rfl ?_
      refine xi_iload (pc' := 1247) (x := 0) kc_196_1245 rfl rfl ?_
      refine xi_iconst (pc' := 1248) (v := 1) kc_196_1247 rfl rfl ?_
      refine xi_iadd (pc' := 1249) (v := 1) kc_196_1248 rfl rfl ?_
      refine xi_ialoadO (pc' := 1250) (v := a1) kc_196_1249 rfl (by decide) hov0 (xi_in (n := 6) (by decide) (by decide)) rfl ?_
      refine xi_virtual (mj := 69) (as := [.int a1]) (st1 := [.int 1]) (lv0 := [(0, .ref 115), (1, .int a1)]) kc_196_1250 rfl rfl rfl rfl rfl (F 115 _ hl_115) (Nat.le_of_ble_eq_true rfl) (hJ _ _ _ _ (by decide)) (xm_le ml_69 rfl) rfl ?_
      refine xi_aload_n (pc' := 1) (x := 115) kc_69_0 rfl rfl ?_
      refine xi_iconst (pc' := 2) (v := 0) kc_69_1 rfl rfl ?_
      refine xi_putfield (pc' := 5) (fs' := [.int 0, .int 0, .ref 116, .ref 117, .ref 118, .ref 119, .ref 120, .ref 121, .ref 122, .ref 123, .ref 124, .ref 125, .ref 126, .ref 127, .ref 128, .ref 129, .int 4, .ref 130, .int 0, .ref 131, .ref 132, .ref 133, .ref 134, .int 0, .ref 135, .ref 136, .ref 137, .ref 138, .ref 139, .ref 140, .ref 141, .ref 142, .int 0, .int 0, .int 0, .ref 143, .ref 144, .ref 145, .ref 146, .ref 147, .ref 148, .int 0, .ref 149, .ref 150, .ref 151, .int 0, .ref 152, .ref 153, .ref 154, .ref 155, .ref 156, .ref 157, .ref 158, .ref 159, .int 0, .ref 160, .int 0, .ref 161, .ref 162, .ref 163, .ref 164, .int 0, .ref 165, .ref 166]) kc_69_2 rfl rfl rfl (F 115 _ hl_115) rfl rfl rfl (Nat.le_of_ble_eq_true rfl) rfl (fun hh1 eh1 => ?_)
      refine xi_iload_n (pc' := 6) (x := a1) kc_69_5 rfl rfl ?_
      refine xi_iconst (pc' := 7) (v := 0) kc_69_6 rfl rfl ?_
      refine xi_iconst (pc' := 8) (v := 1) kc_69_7 rfl rfl ?_
      refine xi_static (mj := 12) (as := [.int a1, .int 0, .int 1]) (st1 := []) (lv0 := [(0, .int a1), (1, .int 0), (2, .int 1)]) kc_69_8 rfl rfl (Nat.le_of_ble_eq_true rfl) rfl rfl (Nat.le_of_ble_eq_true rfl) (hJ _ _ _ _ (by decide)) (xm_le ml_12 rfl) rfl ?_
      refine xi_iload_n (pc' := 1) (x := a1) kc_12_0 rfl rfl ?_
      refine xi_iload_n (pc' := 2) (x := 0) kc_12_1 rfl rfl ?_
      refine xi_cmf (pc' := 5) kc_12_2 rfl (xc_lt_f (X := a1.toInt) (Y := 0) rfl (by decide) (by omega)) ?_
      refine xi_iload_n (pc' := 6) (x := a1) kc_12_5 rfl rfl ?_
      refine xi_iload_n (pc' := 7) (x := 1) kc_12_6 rfl rfl ?_
      refine xi_cmf (pc' := 10) kc_12_7 rfl (xc_gt_f (X := a1.toInt) (Y := 1) rfl (by decide) (by omega)) ?_
      refine xi_iconst (pc' := 11) (v := 1) kc_12_10 rfl rfl ?_
      refine xi_goto (pc' := 15) kc_12_11 rfl ?_
      refine xi_ireturn kc_12_15 mr_12 rfl ?_
      show xw J ov 99 69 (11, [(0, .ref 115), (1, .int a1)], [.int 1], hh1) _
      refine xi_ift (pc' := 21) kc_69_11 rfl rfl ?_
      refine xi_aload_n (pc' := 22) (x := 115) kc_69_21 rfl rfl ?_
      refine xi_virtual (mj := 70) (as := []) (st1 := []) (lv0 := [(0, .ref 115)]) kc_69_22 rfl rfl rfl rfl rfl eh1.1 (Nat.le_of_ble_eq_true rfl) (hJ _ _ _ _ (by decide)) (xm_le ml_70 rfl) rfl ?_
      refine xi_aload_n (pc' := 1) (x := 115) kc_70_0 rfl rfl ?_
      refine xi_iconst (pc' := 2) (v := 0) kc_70_1 rfl rfl ?_
      refine xi_putfield (pc' := 5) (fs' := [.int 0, .int 0, .ref 116, .ref 117, .ref 118, .ref 119, .ref 120, .ref 121, .ref 122, .ref 123, .ref 124, .ref 125, .ref 126, .ref 127, .ref 128, .ref 129, .int 4, .ref 130, .int 0, .ref 131, .ref 132, .ref 133, .ref 134, .int 0, .ref 135, .ref 136, .ref 137, .ref 138, .ref 139, .ref 140, .ref 141, .ref 142, .int 0, .int 0, .int 0, .ref 143, .ref 144, .ref 145, .ref 146, .ref 147, .ref 148, .int 0, .ref 149, .ref 150, .ref 151, .int 0, .ref 152, .ref 153, .ref 154, .ref 155, .ref 156, .ref 157, .ref 158, .ref 159, .int 0, .ref 160, .int 0, .ref 161, .ref 162, .ref 163, .ref 164, .int 0, .ref 165, .ref 166]) kc_70_2 rfl rfl rfl eh1.1 rfl rfl rfl (Nat.le_of_ble_eq_true rfl) rfl (fun hh2 eh2 => ?_)
      refine xi_iconst (pc' := 6) (v := 0) kc_70_5 rfl rfl ?_
      refine xi_istore_n (pc' := 7) (lv' := [(1, .int 0), (0, .ref 115)]) kc_70_6 rfl rfl (xm_lt ml_70 rfl) ?_
      refine xi_iload_n (pc' := 8) (x := 0) kc_70_7 rfl rfl ?_
      refine xi_bipush (pc' := 10) (v := 24) kc_70_8 rfl rfl ?_
      refine xi_cmf (pc' := 13) kc_70_10 rfl rfl ?_
      refine xi_aload_n (pc' := 14) (x := 115) kc_70_13 rfl rfl ?_
      refine xi_getfield (pc' := 17) (v := .ref 158) kc_70_14 rfl rfl rfl eh2.1 rfl ?_
      refine xi_iload_n (pc' := 18) (x := 0) kc_70_17 rfl rfl ?_
      refine xi_iaload (pc' := 19) (v := 2) kc_70_18 rfl ((eh2.2.1 158 (by decide)).trans ((eh1.2.1 158 (by decide)).trans (F 158 _ hl_158))) (by decide) rfl (xi_in (n := 24) (by decide) (by decide)) rfl ?_
      refine xi_iconst (pc' := 20) (v := 2) kc_70_19 rfl rfl ?_
      refine xi_cmt (pc' := 43) kc_70_20 rfl rfl ?_
      refine xi_iinc (pc' := 46) (x := 0) (v := 1) (lv' := [(1, .int 1), (0, .ref 115)]) kc_70_43 rfl rfl rfl rfl (xm_lt ml_70 rfl) ?_
      refine xi_goto (pc' := 7) kc_70_46 rfl ?_
      refine xi_iload_n (pc' := 8) (x := 1) kc_70_7 rfl rfl ?_
      refine xi_bipush (pc' := 10) (v := 24) kc_70_8 rfl rfl ?_
      refine xi_cmf (pc' := 13) kc_70_10 rfl rfl ?_
      refine xi_aload_n (pc' := 14) (x := 115) kc_70_13 rfl rfl ?_
      refine xi_getfield (pc' := 17) (v := .ref 158) kc_70_14 rfl rfl rfl eh2.1 rfl ?_
      refine xi_iload_n (pc' := 18) (x := 1) kc_70_17 rfl rfl ?_
      refine xi_iaload (pc' := 19) (v := 2) kc_70_18 rfl ((eh2.2.1 158 (by decide)).trans ((eh1.2.1 158 (by decide)).trans (F 158 _ hl_158))) (by decide) rfl (xi_in (n := 24) (by decide) (by decide)) rfl ?_
      refine xi_iconst (pc' := 20) (v := 2) kc_70_19 rfl rfl ?_
      refine xi_cmt (pc' := 43) kc_70_20 rfl rfl ?_
      refine xi_iinc (pc' := 46) (x := 1) (v := 2) (lv' := [(1, .int 2), (0, .ref 115)]) kc_70_43 rfl rfl rfl rfl (xm_lt ml_70 rfl) ?_
      refine xi_goto (pc' := 7) kc_70_46 rfl ?_
      refine xi_iload_n (pc' := 8) (x := 2) kc_70_7 rfl rfl ?_
      refine xi_bipush (pc' := 10) (v := 24) kc_70_8 rfl rfl ?_
      refine xi_cmf (pc' := 13) kc_70_10 rfl rfl ?_
      refine xi_aload_n (pc' := 14) (x := 115) kc_70_13 rfl rfl ?_
      refine xi_getfield (pc' := 17) (v := .ref 158) kc_70_14 rfl rfl rfl eh2.1 rfl ?_
      refine xi_iload_n (pc' := 18) (x := 2) kc_70_17 rfl rfl ?_
      refine xi_iaload (pc' := 19) (v := 2) kc_70_18 rfl ((eh2.2.1 158 (by decide)).trans ((eh1.2.1 158 (by decide)).trans (F 158 _ hl_158))) (by decide) rfl (xi_in (n := 24) (by decide) (by decide)) rfl ?_
      refine xi_iconst (pc' := 20) (v := 2) kc_70_19 rfl rfl ?_
      refine xi_cmt (pc' := 43) kc_70_20 rfl rfl ?_
      refine xi_iinc (pc' := 46) (x := 2) (v := 3) (lv' := [(1, .int 3), (0, .ref 115)]) kc_70_43 rfl rfl rfl rfl (xm_lt ml_70 rfl) ?_
      refine xi_goto (pc' := 7) kc_70_46 rfl ?_
      refine xi_iload_n (pc' := 8) (x := 3) kc_70_7 rfl rfl ?_
      refine xi_bipush (pc' := 10) (v := 24) kc_70_8 rfl rfl ?_
      refine xi_cmf (pc' := 13) kc_70_10 rfl rfl ?_
      refine xi_aload_n (pc' := 14) (x := 115) kc_70_13 rfl rfl ?_
      refine xi_getfield (pc' := 17) (v := .ref 158) kc_70_14 rfl rfl rfl eh2.1 rfl ?_
      refine xi_iload_n (pc' := 18) (x := 3) kc_70_17 rfl rfl ?_
      refine xi_iaload (pc' := 19) (v := 2) kc_70_18 rfl ((eh2.2.1 158 (by decide)).trans ((eh1.2.1 158 (by decide)).trans (F 158 _ hl_158))) (by decide) rfl (xi_in (n := 24) (by decide) (by decide)) rfl ?_
      refine xi_iconst (pc' := 20) (v := 2) kc_70_19 rfl rfl ?_
      refine xi_cmt (pc' := 43) kc_70_20 rfl rfl ?_
      refine xi_iinc (pc' := 46) (x := 3) (v := 4) (lv' := [(1, .int 4), (0, .ref 115)]) kc_70_43 rfl rfl rfl rfl (xm_lt ml_70 rfl) ?_
      refine xi_goto (pc' := 7) kc_70_46 rfl ?_
      refine xi_iload_n (pc' := 8) (x := 4) kc_70_7 rfl rfl ?_
      refine xi_bipush (pc' := 10) (v := 24) kc_70_8 rfl rfl ?_
      refine xi_cmf (pc' := 13) kc_70_10 rfl rfl ?_
      refine xi_aload_n (pc' := 14) (x := 115) kc_70_13 rfl rfl ?_
      refine xi_getfield (pc' := 17) (v := .ref 158) kc_70_14 rfl rfl rfl eh2.1 rfl ?_
      refine xi_iload_n (pc' := 18) (x := 4) kc_70_17 rfl rfl ?_
      refine xi_iaload (pc' := 19) (v := 2) kc_70_18 rfl ((eh2.2.1 158 (by decide)).trans ((eh1.2.1 158 (by decide)).trans (F 158 _ hl_158))) (by decide) rfl (xi_in (n := 24) (by decide) (by decide)) rfl ?_
      refine xi_iconst (pc' := 20) (v := 2) kc_70_19 rfl rfl ?_
      refine xi_cmt (pc' := 43) kc_70_20 rfl rfl ?_
      refine xi_iinc (pc' := 46) (x := 4) (v := 5) (lv' := [(1, .int 5), (0, .ref 115)]) kc_70_43 rfl rfl rfl rfl (xm_lt ml_70 rfl) ?_
      refine xi_goto (pc' := 7) kc_70_46 rfl ?_
      refine xi_iload_n (pc' := 8) (x := 5) kc_70_7 rfl rfl ?_
      refine xi_bipush (pc' := 10) (v := 24) kc_70_8 rfl rfl ?_
      refine xi_cmf (pc' := 13) kc_70_10 rfl rfl ?_
      refine xi_aload_n (pc' := 14) (x := 115) kc_70_13 rfl rfl ?_
      refine xi_getfield (pc' := 17) (v := .ref 158) kc_70_14 rfl rfl rfl eh2.1 rfl ?_
      refine xi_iload_n (pc' := 18) (x := 5) kc_70_17 rfl rfl ?_
      refine xi_iaload (pc' := 19) (v := 2) kc_70_18 rfl ((eh2.2.1 158 (by decide)).trans ((eh1.2.1 158 (by decide)).trans (F 158 _ hl_158))) (by decide) rfl (xi_in (n := 24) (by decide) (by decide)) rfl ?_
      refine xi_iconst (pc' := 20) (v := 2) kc_70_19 rfl rfl ?_
      refine xi_cmt (pc' := 43) kc_70_20 rfl rfl ?_
      refine xi_iinc (pc' := 46) (x := 5) (v := 6) (lv' := [(1, .int 6), (0, .ref 115)]) kc_70_43 rfl rfl rfl rfl (xm_lt ml_70 rfl) ?_
      refine xi_goto (pc' := 7) kc_70_46 rfl ?_
      refine xi_iload_n (pc' := 8) (x := 6) kc_70_7 rfl rfl ?_
      refine xi_bipush (pc' := 10) (v := 24) kc_70_8 rfl rfl ?_
      refine xi_cmf (pc' := 13) kc_70_10 rfl rfl ?_
      refine xi_aload_n (pc' := 14) (x := 115) kc_70_13 rfl rfl ?_
      refine xi_getfield (pc' := 17) (v := .ref 158) kc_70_14 rfl rfl rfl eh2.1 rfl ?_
      refine xi_iload_n (pc' := 18) (x := 6) kc_70_17 rfl rfl ?_
      refine xi_iaload (pc' := 19) (v := 2) kc_70_18 rfl ((eh2.2.1 158 (by decide)).trans ((eh1.2.1 158 (by decide)).trans (F 158 _ hl_158))) (by decide) rfl (xi_in (n := 24) (by decide) (by decide)) rfl ?_
      refine xi_iconst (pc' := 20) (v := 2) kc_70_19 rfl rfl ?_
      refine xi_cmt (pc' := 43) kc_70_20 rfl rfl ?_
      refine xi_iinc (pc' := 46) (x := 6) (v := 7) (lv' := [(1, .int 7), (0, .ref 115)]) kc_70_43 rfl rfl rfl rfl (xm_lt ml_70 rfl) ?_
      refine xi_goto (pc' := 7) kc_70_46 rfl ?_
      refine xi_iload_n (pc' := 8) (x := 7) kc_70_7 rfl rfl ?_
      refine xi_bipush (pc' := 10) (v := 24) kc_70_8 rfl rfl ?_
      refine xi_cmf (pc' := 13) kc_70_10 rfl rfl ?_
      refine xi_aload_n (pc' := 14) (x := 115) kc_70_13 rfl rfl ?_
      refine xi_getfield (pc' := 17) (v := .ref 158) kc_70_14 rfl rfl rfl eh2.1 rfl ?_
      refine xi_iload_n (pc' := 18) (x := 7) kc_70_17 rfl rfl ?_
      refine xi_iaload (pc' := 19) (v := 2) kc_70_18 rfl ((eh2.2.1 158 (by decide)).trans ((eh1.2.1 158 (by decide)).trans (F 158 _ hl_158))) (by decide) rfl (xi_in (n := 24) (by decide) (by decide)) rfl ?_
      refine xi_iconst (pc' := 20) (v := 2) kc_70_19 rfl rfl ?_
      refine xi_cmt (pc' := 43) kc_70_20 rfl rfl ?_
      refine xi_iinc (pc' := 46) (x := 7) (v := 8) (lv' := [(1, .int 8), (0, .ref 115)]) kc_70_43 rfl rfl rfl rfl (xm_lt ml_70 rfl) ?_
      refine xi_goto (pc' := 7) kc_70_46 rfl ?_
      refine xi_iload_n (pc' := 8) (x := 8) kc_70_7 rfl rfl ?_
      refine xi_bipush (pc' := 10) (v := 24) kc_70_8 rfl rfl ?_
      refine xi_cmf (pc' := 13) kc_70_10 rfl rfl ?_
      refine xi_aload_n (pc' := 14) (x := 115) kc_70_13 rfl rfl ?_
      refine xi_getfield (pc' := 17) (v := .ref 158) kc_70_14 rfl rfl rfl eh2.1 rfl ?_
      refine xi_iload_n (pc' := 18) (x := 8) kc_70_17 rfl rfl ?_
      refine xi_iaload (pc' := 19) (v := 2) kc_70_18 rfl ((eh2.2.1 158 (by decide)).trans ((eh1.2.1 158 (by decide)).trans (F 158 _ hl_158))) (by decide) rfl (xi_in (n := 24) (by decide) (by decide)) rfl ?_
      refine xi_iconst (pc' := 20) (v := 2) kc_70_19 rfl rfl ?_
      refine xi_cmt (pc' := 43) kc_70_20 rfl rfl ?_
      refine xi_iinc (pc' := 46) (x := 8) (v := 9) (lv' := [(1, .int 9), (0, .ref 115)]) kc_70_43 rfl rfl rfl rfl (xm_lt ml_70 rfl) ?_
      refine xi_goto (pc' := 7) kc_70_46 rfl ?_
      refine xi_iload_n (pc' := 8) (x := 9) kc_70_7 rfl rfl ?_
      refine xi_bipush (pc' := 10) (v := 24) kc_70_8 rfl rfl ?_
      refine xi_cmf (pc' := 13) kc_70_10 rfl rfl ?_
      refine xi_aload_n (pc' := 14) (x := 115) kc_70_13 rfl rfl ?_
      refine xi_getfield (pc' := 17) (v := .ref 158) kc_70_14 rfl rfl rfl eh2.1 rfl ?_
      refine xi_iload_n (pc' := 18) (x := 9) kc_70_17 rfl rfl ?_
      refine xi_iaload (pc' := 19) (v := 2) kc_70_18 rfl ((eh2.2.1 158 (by decide)).trans ((eh1.2.1 158 (by decide)).trans (F 158 _ hl_158))) (by decide) rfl (xi_in (n := 24) (by decide) (by decide)) rfl ?_
      refine xi_iconst (pc' := 20) (v := 2) kc_70_19 rfl rfl ?_
      refine xi_cmt (pc' := 43) kc_70_20 rfl rfl ?_
      refine xi_iinc (pc' := 46) (x := 9) (v := 10) (lv' := [(1, .int 10), (0, .ref 115)]) kc_70_43 rfl rfl rfl rfl (xm_lt ml_70 rfl) ?_
      refine xi_goto (pc' := 7) kc_70_46 rfl ?_
      refine xi_iload_n (pc' := 8) (x := 10) kc_70_7 rfl rfl ?_
      refine xi_bipush (pc' := 10) (v := 24) kc_70_8 rfl rfl ?_
      refine xi_cmf (pc' := 13) kc_70_10 rfl rfl ?_
      refine xi_aload_n (pc' := 14) (x := 115) kc_70_13 rfl rfl ?_
      refine xi_getfield (pc' := 17) (v := .ref 158) kc_70_14 rfl rfl rfl eh2.1 rfl ?_
      refine xi_iload_n (pc' := 18) (x := 10) kc_70_17 rfl rfl ?_
      refine xi_iaload (pc' := 19) (v := 2) kc_70_18 rfl ((eh2.2.1 158 (by decide)).trans ((eh1.2.1 158 (by decide)).trans (F 158 _ hl_158))) (by decide) rfl (xi_in (n := 24) (by decide) (by decide)) rfl ?_
      refine xi_iconst (pc' := 20) (v := 2) kc_70_19 rfl rfl ?_
      refine xi_cmt (pc' := 43) kc_70_20 rfl rfl ?_
      refine xi_iinc (pc' := 46) (x := 10) (v := 11) (lv' := [(1, .int 11), (0, .ref 115)]) kc_70_43 rfl rfl rfl rfl (xm_lt ml_70 rfl) ?_
      refine xi_goto (pc' := 7) kc_70_46 rfl ?_
      refine xi_iload_n (pc' := 8) (x := 11) kc_70_7 rfl rfl ?_
      refine xi_bipush (pc' := 10) (v := 24) kc_70_8 rfl rfl ?_
      refine xi_cmf (pc' := 13) kc_70_10 rfl rfl ?_
      refine xi_aload_n (pc' := 14) (x := 115) kc_70_13 rfl rfl ?_
      refine xi_getfield (pc' := 17) (v := .ref 158) kc_70_14 rfl rfl rfl eh2.1 rfl ?_
      refine xi_iload_n (pc' := 18) (x := 11) kc_70_17 rfl rfl ?_
      refine xi_iaload (pc' := 19) (v := 2) kc_70_18 rfl ((eh2.2.1 158 (by decide)).trans ((eh1.2.1 158 (by decide)).trans (F 158 _ hl_158))) (by decide) rfl (xi_in (n := 24) (by decide) (by decide)) rfl ?_
      refine xi_iconst (pc' := 20) (v := 2) kc_70_19 rfl rfl ?_
      refine xi_cmt (pc' := 43) kc_70_20 rfl rfl ?_
      refine xi_iinc (pc' := 46) (x := 11) (v := 12) (lv' := [(1, .int 12), (0, .ref 115)]) kc_70_43 rfl rfl rfl rfl (xm_lt ml_70 rfl) ?_
      refine xi_goto (pc' := 7) kc_70_46 rfl ?_
      refine xi_iload_n (pc' := 8) (x := 12) kc_70_7 rfl rfl ?_
      refine xi_bipush (pc' := 10) (v := 24) kc_70_8 rfl rfl ?_
      refine xi_cmf (pc' := 13) kc_70_10 rfl rfl ?_
      refine xi_aload_n (pc' := 14) (x := 115) kc_70_13 rfl rfl ?_
      refine xi_getfield (pc' := 17) (v := .ref 158) kc_70_14 rfl rfl rfl eh2.1 rfl ?_
      refine xi_iload_n (pc' := 18) (x := 12) kc_70_17 rfl rfl ?_
      refine xi_iaload (pc' := 19) (v := 2) kc_70_18 rfl ((eh2.2.1 158 (by decide)).trans ((eh1.2.1 158 (by decide)).trans (F 158 _ hl_158))) (by decide) rfl (xi_in (n := 24) (by decide) (by decide)) rfl ?_
      refine xi_iconst (pc' := 20) (v := 2) kc_70_19 rfl rfl ?_
      refine xi_cmt (pc' := 43) kc_70_20 rfl rfl ?_
      refine xi_iinc (pc' := 46) (x := 12) (v := 13) (lv' := [(1, .int 13), (0, .ref 115)]) kc_70_43 rfl rfl rfl rfl (xm_lt ml_70 rfl) ?_
      refine xi_goto (pc' := 7) kc_70_46 rfl ?_
      refine xi_iload_n (pc' := 8) (x := 13) kc_70_7 rfl rfl ?_
      refine xi_bipush (pc' := 10) (v := 24) kc_70_8 rfl rfl ?_
      refine xi_cmf (pc' := 13) kc_70_10 rfl rfl ?_
      refine xi_aload_n (pc' := 14) (x := 115) kc_70_13 rfl rfl ?_
      refine xi_getfield (pc' := 17) (v := .ref 158) kc_70_14 rfl rfl rfl eh2.1 rfl ?_
      refine xi_iload_n (pc' := 18) (x := 13) kc_70_17 rfl rfl ?_
      refine xi_iaload (pc' := 19) (v := 2) kc_70_18 rfl ((eh2.2.1 158 (by decide)).trans ((eh1.2.1 158 (by decide)).trans (F 158 _ hl_158))) (by decide) rfl (xi_in (n := 24) (by decide) (by decide)) rfl ?_
      refine xi_iconst (pc' := 20) (v := 2) kc_70_19 rfl rfl ?_
      refine xi_cmt (pc' := 43) kc_70_20 rfl rfl ?_
      refine xi_iinc (pc' := 46) (x := 13) (v := 14) (lv' := [(1, .int 14), (0, .ref 115)]) kc_70_43 rfl rfl rfl rfl (xm_lt ml_70 rfl) ?_
      refine xi_goto (pc' := 7) kc_70_46 rfl ?_
      refine xi_iload_n (pc' := 8) (x := 14) kc_70_7 rfl rfl ?_
      refine xi_bipush (pc' := 10) (v := 24) kc_70_8 rfl rfl ?_
      refine xi_cmf (pc' := 13) kc_70_10 rfl rfl ?_
      refine xi_aload_n (pc' := 14) (x := 115) kc_70_13 rfl rfl ?_
      refine xi_getfield (pc' := 17) (v := .ref 158) kc_70_14 rfl rfl rfl eh2.1 rfl ?_
      refine xi_iload_n (pc' := 18) (x := 14) kc_70_17 rfl rfl ?_
      refine xi_iaload (pc' := 19) (v := 2) kc_70_18 rfl ((eh2.2.1 158 (by decide)).trans ((eh1.2.1 158 (by decide)).trans (F 158 _ hl_158))) (by decide) rfl (xi_in (n := 24) (by decide) (by decide)) rfl ?_
      refine xi_iconst (pc' := 20) (v := 2) kc_70_19 rfl rfl ?_
      refine xi_cmt (pc' := 43) kc_70_20 rfl rfl ?_
      refine xi_iinc (pc' := 46) (x := 14) (v := 15) (lv' := [(1, .int 15), (0, .ref 115)]) kc_70_43 rfl rfl rfl rfl (xm_lt ml_70 rfl) ?_
      refine xi_goto (pc' := 7) kc_70_46 rfl ?_
      refine xi_iload_n (pc' := 8) (x := 15) kc_70_7 rfl rfl ?_
      refine xi_bipush (pc' := 10) (v := 24) kc_70_8 rfl rfl ?_
      refine xi_cmf (pc' := 13) kc_70_10 rfl rfl ?_
      refine xi_aload_n (pc' := 14) (x := 115) kc_70_13 rfl rfl ?_
      refine xi_getfield (pc' := 17) (v := .ref 158) kc_70_14 rfl rfl rfl eh2.1 rfl ?_
      refine xi_iload_n (pc' := 18) (x := 15) kc_70_17 rfl rfl ?_
      refine xi_iaload (pc' := 19) (v := 2) kc_70_18 rfl ((eh2.2.1 158 (by decide)).trans ((eh1.2.1 158 (by decide)).trans (F 158 _ hl_158))) (by decide) rfl (xi_in (n := 24) (by decide) (by decide)) rfl ?_
      refine xi_iconst (pc' := 20) (v := 2) kc_70_19 rfl rfl ?_
      refine xi_cmt (pc' := 43) kc_70_20 rfl rfl ?_
      refine xi_iinc (pc' := 46) (x := 15) (v := 16) (lv' := [(1, .int 16), (0, .ref 115)]) kc_70_43 rfl rfl rfl rfl (xm_lt ml_70 rfl) ?_
      refine xi_goto (pc' := 7) kc_70_46 rfl ?_
      refine xi_iload_n (pc' := 8) (x := 16) kc_70_7 rfl rfl ?_
      refine xi_bipush (pc' := 10) (v := 24) kc_70_8 rfl rfl ?_
      refine xi_cmf (pc' := 13) kc_70_10 rfl rfl ?_
      refine xi_aload_n (pc' := 14) (x := 115) kc_70_13 rfl rfl ?_
      refine xi_getfield (pc' := 17) (v := .ref 158) kc_70_14 rfl rfl rfl eh2.1 rfl ?_
      refine xi_iload_n (pc' := 18) (x := 16) kc_70_17 rfl rfl ?_
      refine xi_iaload (pc' := 19) (v := 2) kc_70_18 rfl ((eh2.2.1 158 (by decide)).trans ((eh1.2.1 158 (by decide)).trans (F 158 _ hl_158))) (by decide) rfl (xi_in (n := 24) (by decide) (by decide)) rfl ?_
      refine xi_iconst (pc' := 20) (v := 2) kc_70_19 rfl rfl ?_
      refine xi_cmt (pc' := 43) kc_70_20 rfl rfl ?_
      refine xi_iinc (pc' := 46) (x := 16) (v := 17) (lv' := [(1, .int 17), (0, .ref 115)]) kc_70_43 rfl rfl rfl rfl (xm_lt ml_70 rfl) ?_
      refine xi_goto (pc' := 7) kc_70_46 rfl ?_
      refine xi_iload_n (pc' := 8) (x := 17) kc_70_7 rfl rfl ?_
      refine xi_bipush (pc' := 10) (v := 24) kc_70_8 rfl rfl ?_
      refine xi_cmf (pc' := 13) kc_70_10 rfl rfl ?_
      refine xi_aload_n (pc' := 14) (x := 115) kc_70_13 rfl rfl ?_
      refine xi_getfield (pc' := 17) (v := .ref 158) kc_70_14 rfl rfl rfl eh2.1 rfl ?_
      refine xi_iload_n (pc' := 18) (x := 17) kc_70_17 rfl rfl ?_
      refine xi_iaload (pc' := 19) (v := 2) kc_70_18 rfl ((eh2.2.1 158 (by decide)).trans ((eh1.2.1 158 (by decide)).trans (F 158 _ hl_158))) (by decide) rfl (xi_in (n := 24) (by decide) (by decide)) rfl ?_
      refine xi_iconst (pc' := 20) (v := 2) kc_70_19 rfl rfl ?_
      refine xi_cmt (pc' := 43) kc_70_20 rfl rfl ?_
      refine xi_iinc (pc' := 46) (x := 17) (v := 18) (lv' := [(1, .int 18), (0, .ref 115)]) kc_70_43 rfl rfl rfl rfl (xm_lt ml_70 rfl) ?_
      refine xi_goto (pc' := 7) kc_70_46 rfl ?_
      refine xi_iload_n (pc' := 8) (x := 18) kc_70_7 rfl rfl ?_
      refine xi_bipush (pc' := 10) (v := 24) kc_70_8 rfl rfl ?_
      refine xi_cmf (pc' := 13) kc_70_10 rfl rfl ?_
      refine xi_aload_n (pc' := 14) (x := 115) kc_70_13 rfl rfl ?_
      refine xi_getfield (pc' := 17) (v := .ref 158) kc_70_14 rfl rfl rfl eh2.1 rfl ?_
      refine xi_iload_n (pc' := 18) (x := 18) kc_70_17 rfl rfl ?_
      refine xi_iaload (pc' := 19) (v := 2) kc_70_18 rfl ((eh2.2.1 158 (by decide)).trans ((eh1.2.1 158 (by decide)).trans (F 158 _ hl_158))) (by decide) rfl (xi_in (n := 24) (by decide) (by decide)) rfl ?_
      refine xi_iconst (pc' := 20) (v := 2) kc_70_19 rfl rfl ?_
      refine xi_cmt (pc' := 43) kc_70_20 rfl rfl ?_
      refine xi_iinc (pc' := 46) (x := 18) (v := 19) (lv' := [(1, .int 19), (0, .ref 115)]) kc_70_43 rfl rfl rfl rfl (xm_lt ml_70 rfl) ?_
      refine xi_goto (pc' := 7) kc_70_46 rfl ?_
      refine xi_iload_n (pc' := 8) (x := 19) kc_70_7 rfl rfl ?_
      refine xi_bipush (pc' := 10) (v := 24) kc_70_8 rfl rfl ?_
      refine xi_cmf (pc' := 13) kc_70_10 rfl rfl ?_
      refine xi_aload_n (pc' := 14) (x := 115) kc_70_13 rfl rfl ?_
      refine xi_getfield (pc' := 17) (v := .ref 158) kc_70_14 rfl rfl rfl eh2.1 rfl ?_
      refine xi_iload_n (pc' := 18) (x := 19) kc_70_17 rfl rfl ?_
      refine xi_iaload (pc' := 19) (v := 2) kc_70_18 rfl ((eh2.2.1 158 (by decide)).trans ((eh1.2.1 158 (by decide)).trans (F 158 _ hl_158))) (by decide) rfl (xi_in (n := 24) (by decide) (by decide)) rfl ?_
      refine xi_iconst (pc' := 20) (v := 2) kc_70_19 rfl rfl ?_
      refine xi_cmt (pc' := 43) kc_70_20 rfl rfl ?_
      refine xi_iinc (pc' := 46) (x := 19) (v := 20) (lv' := [(1, .int 20), (0, .ref 115)]) kc_70_43 rfl rfl rfl rfl (xm_lt ml_70 rfl) ?_
      refine xi_goto (pc' := 7) kc_70_46 rfl ?_
      refine xi_iload_n (pc' := 8) (x := 20) kc_70_7 rfl rfl ?_
      refine xi_bipush (pc' := 10) (v := 24) kc_70_8 rfl rfl ?_
      refine xi_cmf (pc' := 13) kc_70_10 rfl rfl ?_
      refine xi_aload_n (pc' := 14) (x := 115) kc_70_13 rfl rfl ?_
      refine xi_getfield (pc' := 17) (v := .ref 158) kc_70_14 rfl rfl rfl eh2.1 rfl ?_
      refine xi_iload_n (pc' := 18) (x := 20) kc_70_17 rfl rfl ?_
      refine xi_iaload (pc' := 19) (v := 2) kc_70_18 rfl ((eh2.2.1 158 (by decide)).trans ((eh1.2.1 158 (by decide)).trans (F 158 _ hl_158))) (by decide) rfl (xi_in (n := 24) (by decide) (by decide)) rfl ?_
      refine xi_iconst (pc' := 20) (v := 2) kc_70_19 rfl rfl ?_
      refine xi_cmt (pc' := 43) kc_70_20 rfl rfl ?_
      refine xi_iinc (pc' := 46) (x := 20) (v := 21) (lv' := [(1, .int 21), (0, .ref 115)]) kc_70_43 rfl rfl rfl rfl (xm_lt ml_70 rfl) ?_
      refine xi_goto (pc' := 7) kc_70_46 rfl ?_
      refine xi_iload_n (pc' := 8) (x := 21) kc_70_7 rfl rfl ?_
      refine xi_bipush (pc' := 10) (v := 24) kc_70_8 rfl rfl ?_
      refine xi_cmf (pc' := 13) kc_70_10 rfl rfl ?_
      refine xi_aload_n (pc' := 14) (x := 115) kc_70_13 rfl rfl ?_
      refine xi_getfield (pc' := 17) (v := .ref 158) kc_70_14 rfl rfl rfl eh2.1 rfl ?_
      refine xi_iload_n (pc' := 18) (x := 21) kc_70_17 rfl rfl ?_
      refine xi_iaload (pc' := 19) (v := 2) kc_70_18 rfl ((eh2.2.1 158 (by decide)).trans ((eh1.2.1 158 (by decide)).trans (F 158 _ hl_158))) (by decide) rfl (xi_in (n := 24) (by decide) (by decide)) rfl ?_
      refine xi_iconst (pc' := 20) (v := 2) kc_70_19 rfl rfl ?_
      refine xi_cmt (pc' := 43) kc_70_20 rfl rfl ?_
      refine xi_iinc (pc' := 46) (x := 21) (v := 22) (lv' := [(1, .int 22), (0, .ref 115)]) kc_70_43 rfl rfl rfl rfl (xm_lt ml_70 rfl) ?_
      refine xi_goto (pc' := 7) kc_70_46 rfl ?_
      refine xi_iload_n (pc' := 8) (x := 22) kc_70_7 rfl rfl ?_
      refine xi_bipush (pc' := 10) (v := 24) kc_70_8 rfl rfl ?_
      refine xi_cmf (pc' := 13) kc_70_10 rfl rfl ?_
      refine xi_aload_n (pc' := 14) (x := 115) kc_70_13 rfl rfl ?_
      refine xi_getfield (pc' := 17) (v := .ref 158) kc_70_14 rfl rfl rfl eh2.1 rfl ?_
      refine xi_iload_n (pc' := 18) (x := 22) kc_70_17 rfl rfl ?_
      refine xi_iaload (pc' := 19) (v := 2) kc_70_18 rfl ((eh2.2.1 158 (by decide)).trans ((eh1.2.1 158 (by decide)).trans (F 158 _ hl_158))) (by decide) rfl (xi_in (n := 24) (by decide) (by decide)) rfl ?_
      refine xi_iconst (pc' := 20) (v := 2) kc_70_19 rfl rfl ?_
      refine xi_cmt (pc' := 43) kc_70_20 rfl rfl ?_
      refine xi_iinc (pc' := 46) (x := 22) (v := 23) (lv' := [(1, .int 23), (0, .ref 115)]) kc_70_43 rfl rfl rfl rfl (xm_lt ml_70 rfl) ?_
      refine xi_goto (pc' := 7) kc_70_46 rfl ?_
      refine xi_iload_n (pc' := 8) (x := 23) kc_70_7 rfl rfl ?_
      refine xi_bipush (pc' := 10) (v := 24) kc_70_8 rfl rfl ?_
      refine xi_cmf (pc' := 13) kc_70_10 rfl rfl ?_
      refine xi_aload_n (pc' := 14) (x := 115) kc_70_13 rfl rfl ?_
      refine xi_getfield (pc' := 17) (v := .ref 158) kc_70_14 rfl rfl rfl eh2.1 rfl ?_
      refine xi_iload_n (pc' := 18) (x := 23) kc_70_17 rfl rfl ?_
      refine xi_iaload (pc' := 19) (v := 2) kc_70_18 rfl ((eh2.2.1 158 (by decide)).trans ((eh1.2.1 158 (by decide)).trans (F 158 _ hl_158))) (by decide) rfl (xi_in (n := 24) (by decide) (by decide)) rfl ?_
      refine xi_iconst (pc' := 20) (v := 2) kc_70_19 rfl rfl ?_
      refine xi_cmt (pc' := 43) kc_70_20 rfl rfl ?_
      refine xi_iinc (pc' := 46) (x := 23) (v := 24) (lv' := [(1, .int 24), (0, .ref 115)]) kc_70_43 rfl rfl rfl rfl (xm_lt ml_70 rfl) ?_
      refine xi_goto (pc' := 7) kc_70_46 rfl ?_
      refine xi_iload_n (pc' := 8) (x := 24) kc_70_7 rfl rfl ?_
      refine xi_bipush (pc' := 10) (v := 24) kc_70_8 rfl rfl ?_
      refine xi_cmt (pc' := 49) kc_70_10 rfl rfl ?_
      refine xi_return kc_70_49 mr_70 ?_
      show xw J ov 99 69 (25, [(0, .ref 115), (1, .int a1)], [], hh2) _
      refine xi_aload_n (pc' := 26) (x := 115) kc_69_25 rfl rfl ?_
      refine xi_getfield (pc' := 29) (v := .int 0) kc_69_26 rfl rfl rfl eh2.1 rfl ?_
      refine xi_bipush (pc' := 31) (v := 16) kc_69_29 rfl rfl ?_
      refine xi_cmt (pc' := 41) kc_69_31 rfl rfl ?_
      refine xi_iconst (pc' := 42) (v := 0) kc_69_41 rfl rfl ?_
      refine xi_istore_n (pc' := 43) (lv' := [(2, .int 0), (0, .ref 115), (1, .int a1)]) kc_69_42 rfl rfl (xm_lt ml_69 rfl) ?_
      refine xi_iconst (pc' := 44) (v := 0) kc_69_43 rfl rfl ?_
      refine xi_istore_n (pc' := 45) (lv' := [(3, .int 0), (2, .int 0), (0, .ref 115), (1, .int a1)]) kc_69_44 rfl rfl (xm_lt ml_69 rfl) ?_
      refine xi_iload_n (pc' := 46) (x := 0) kc_69_45 rfl rfl ?_
      refine xi_aload_n (pc' := 47) (x := 115) kc_69_46 rfl rfl ?_
      refine xi_getfield (pc' := 50) (v := .int 0) kc_69_47 rfl rfl rfl eh2.1 rfl ?_
      refine xi_cmt (pc' := 132) kc_69_50 rfl rfl ?_
      refine xi_aload_n (pc' := 133) (x := 115) kc_69_132 rfl rfl ?_
      refine xi_virtual (mj := 67) (as := []) (st1 := []) (lv0 := [(0, .ref 115)]) kc_69_133 rfl rfl rfl rfl rfl eh2.1 (Nat.le_of_ble_eq_true rfl) (hJ _ _ _ _ (by decide)) (xm_le ml_67 rfl) rfl ?_
      refine mj_ref hJ eh2.1 ((eh2.2.1 158 (by decide)).trans ((eh1.2.1 158 (by decide)).trans (F 158 _ hl_158))) ?_
      show xw J ov 99 69 (136, [(3, .int 0), (2, .int 0), (0, .ref 115), (1, .int a1)], [.int 0], hh2) _
      refine xi_istore_n (pc' := 137) (lv' := [(3, .int 0), (2, .int 0), (0, .ref 115), (1, .int a1)]) kc_69_136 rfl rfl (xm_lt ml_69 rfl) ?_
      refine xi_iconst (pc' := 138) (v := 0) kc_69_137 rfl rfl ?_
      refine xi_istore (pc' := 140) (lv' := [(4, .int 0), (3, .int 0), (2, .int 0), (0, .ref 115), (1, .int a1)]) kc_69_138 rfl rfl (xm_lt ml_69 rfl) ?_
      refine xi_iconst (pc' := 141) (v := 0) kc_69_140 rfl rfl ?_
      refine xi_istore (pc' := 143) (lv' := [(5, .int 0), (4, .int 0), (3, .int 0), (2, .int 0), (0, .ref 115), (1, .int a1)]) kc_69_141 rfl rfl (xm_lt ml_69 rfl) ?_
      refine xi_iconst (pc' := 144) (v := 0) kc_69_143 rfl rfl ?_
      refine xi_istore (pc' := 146) (lv' := [(6, .int 0), (5, .int 0), (4, .int 0), (3, .int 0), (2, .int 0), (0, .ref 115), (1, .int a1)]) kc_69_144 rfl rfl (xm_lt ml_69 rfl) ?_
      refine xi_iload (pc' := 148) (x := 0) kc_69_146 rfl rfl ?_
      refine xi_iconst (pc' := 149) (v := 1) kc_69_148 rfl rfl ?_
      refine xi_aload_n (pc' := 150) (x := 115) kc_69_149 rfl rfl ?_
      refine xi_getfield (pc' := 153) (v := .int 0) kc_69_150 rfl rfl rfl eh2.1 rfl ?_
      refine xi_ishl (pc' := 154) (v := 1) kc_69_153 rfl rfl ?_
      refine xi_cmf (pc' := 157) kc_69_154 rfl rfl ?_
      refine xi_iload (pc' := 159) (x := 0) kc_69_157 rfl rfl ?_
      refine xi_static (mj := 50) (as := [.int 0]) (st1 := []) (lv0 := [(0, .int 0)]) kc_69_159 rfl rfl (Nat.le_of_ble_eq_true rfl) rfl rfl (Nat.le_of_ble_eq_true rfl) (hJ _ _ _ _ (by decide)) (xm_le ml_50 rfl) rfl ?_
      refine xi_iconst (pc' := 1) (v := 0) kc_50_0 rfl rfl ?_
      refine xi_istore_n (pc' := 2) (lv' := [(1, .int 0), (0, .int 0)]) kc_50_1 rfl rfl (xm_lt ml_50 rfl) ?_
      refine xi_iload_n (pc' := 3) (x := 0) kc_50_2 rfl rfl ?_
      refine xi_istore_n (pc' := 4) (lv' := [(2, .int 0), (1, .int 0), (0, .int 0)]) kc_50_3 rfl rfl (xm_lt ml_50 rfl) ?_
      refine xi_iload_n (pc' := 5) (x := 0) kc_50_4 rfl rfl ?_
      refine xi_ift (pc' := 21) kc_50_5 rfl rfl ?_
      refine xi_iload_n (pc' := 22) (x := 0) kc_50_21 rfl rfl ?_
      refine xi_ireturn kc_50_22 mr_50 rfl ?_
      show xw J ov 99 69 (162, [(6, .int 0), (5, .int 0), (4, .int 0), (3, .int 0), (2, .int 0), (0, .ref 115), (1, .int a1)], [.int 0], hh2) _
      refine xi_iload_n (pc' := 163) (x := 0) kc_69_162 rfl rfl ?_
      refine xi_cmf (pc' := 166) kc_69_163 rfl rfl ?_
      refine xi_iconst (pc' := 167) (v := 0) kc_69_166 rfl rfl ?_
      refine xi_istore (pc' := 169) (lv' := [(7, .int 0), (6, .int 0), (5, .int 0), (4, .int 0), (3, .int 0), (2, .int 0), (0, .ref 115), (1, .int a1)]) kc_69_167 rfl rfl (xm_lt ml_69 rfl) ?_
      refine xi_iconst (pc' := 170) (v := 0) kc_69_169 rfl rfl ?_
      refine xi_istore (pc' := 172) (lv' := [(8, .int 0), (7, .int 0), (6, .int 0), (5, .int 0), (4, .int 0), (3, .int 0), (2, .int 0), (0, .ref 115), (1, .int a1)]) kc_69_170 rfl rfl (xm_lt ml_69 rfl) ?_
      refine xi_iload (pc' := 174) (x := 0) kc_69_172 rfl rfl ?_
      refine xi_aload_n (pc' := 175) (x := 115) kc_69_174 rfl rfl ?_
      refine xi_getfield (pc' := 178) (v := .int 0) kc_69_175 rfl rfl rfl eh2.1 rfl ?_
      refine xi_cmt (pc' := 220) kc_69_178 rfl rfl ?_
      refine xi_iinc (pc' := 223) (x := 0) (v := 1) (lv' := [(5, .int 1), (8, .int 0), (7, .int 0), (6, .int 0), (4, .int 0), (3, .int 0), (2, .int 0), (0, .ref 115), (1, .int a1)]) kc_69_220 rfl rfl rfl rfl (xm_lt ml_69 rfl) ?_
      refine xi_iload (pc' := 225) (x := 0) kc_69_223 rfl rfl ?_
      refine xi_iload (pc' := 227) (x := 0) kc_69_225 rfl rfl ?_
      refine xi_iload_n (pc' := 228) (x := 0) kc_69_227 rfl rfl ?_
      refine xi_cmf (pc' := 231) kc_69_228 rfl rfl ?_
      refine xi_iconst (pc' := 232) (v := 1) kc_69_231 rfl rfl ?_
      refine xi_goto (pc' := 236) kc_69_232 rfl ?_
      refine xi_iadd (pc' := 237) (v := 1) kc_69_236 rfl rfl ?_
      refine xi_istore (pc' := 239) (lv' := [(4, .int 1), (5, .int 1), (8, .int 0), (7, .int 0), (6, .int 0), (3, .int 0), (2, .int 0), (0, .ref 115), (1, .int a1)]) kc_69_237 rfl rfl (xm_lt ml_69 rfl) ?_
      refine xi_iinc (pc' := 242) (x := 0) (v := 1) (lv' := [(6, .int 1), (4, .int 1), (5, .int 1), (8, .int 0), (7, .int 0), (3, .int 0), (2, .int 0), (0, .ref 115), (1, .int a1)]) kc_69_239 rfl rfl rfl rfl (xm_lt ml_69 rfl) ?_
      refine xi_goto (pc' := 146) kc_69_242 rfl ?_
      refine xi_iload (pc' := 148) (x := 1) kc_69_146 rfl rfl ?_
      refine xi_iconst (pc' := 149) (v := 1) kc_69_148 rfl rfl ?_
      refine xi_aload_n (pc' := 150) (x := 115) kc_69_149 rfl rfl ?_
      refine xi_getfield (pc' := 153) (v := .int 0) kc_69_150 rfl rfl rfl eh2.1 rfl ?_
      refine xi_ishl (pc' := 154) (v := 1) kc_69_153 rfl rfl ?_
      refine xi_cmt (pc' := 245) kc_69_154 rfl rfl ?_
      refine xi_iload_n (pc' := 246) (x := a1) kc_69_245 rfl rfl ?_
      refine xi_ift (pc' := 254) kc_69_246 rfl (xc_ne_t (X := a1.toInt) (Y := 0) rfl (by decide) (by omega)) ?_
      refine xi_iload (pc' := 256) (x := 1) kc_69_254 rfl rfl ?_
      refine xi_ireturn kc_69_256 mr_69 rfl ?_
      show xw J ov 100 196 (1253, [(4, .int 0), (3, .ref 167), (2, .ref 115), (1, .ref 0), (0, .ref 1000000)], [.int 1, .int 1], hh2) _
      refine xi_cmt (pc' := 1528) kc_196_1253 rfl rfl ?_
      refine xi_iinc (pc' := 1531) (x := 0) (v := 6) (lv' := [(4, .int 6), (3, .ref 167), (2, .ref 115), (1, .ref 0), (0, .ref 1000000)]) kc_196_1528 rfl rfl rfl rfl (xm_lt ml_196 rfl) ?_
      refine xi_goto (pc' := 23) kc_196_1531 rfl ?_
      refine xi_iload (pc' := 25) (x := 6) kc_196_23 rfl rfl ?_
      refine xi_aload_n (pc' := 26) (x := 1000000) kc_196_25 rfl rfl ?_
      refine xi_arraylength (pc' := 27) (n := 6) (v := 6) kc_196_26 rfl (xl_lenO (by decide) hov0 rfl) rfl ?_
      refine xi_bipush (pc' := 29) (v := 6) kc_196_27 rfl rfl ?_
      refine xi_isub (pc' := 30) (v := 0) kc_196_29 rfl rfl ?_
      refine xi_cmt (pc' := 1534) kc_196_30 rfl rfl ?_
      refine xi_iconst (pc' := 1535) (v := 1) kc_196_1534 rfl rfl ?_
      refine xi_ireturn kc_196_1535 mr_196 rfl ?_
      refine ⟨rfl, ?_, ?_⟩
      · rw [eh2.2.2.1, eh1.2.2.1]; exact hn0
      · rw [eh2.2.2.2, eh1.2.2.2]; exact hz0
    · refine xi_cmf (pc' := 9) kc_173_6 rfl (xc_eq_f (X := a1.toInt) (Y := 1) rfl (by decide) (by omega)) ?_
      refine xi_aload_n (pc' := 10) (x := 0) kc_173_9 rfl rfl ?_
      refine xi_bipush (pc' := 12) (v := (-2)) kc_173_10 rfl rfl ?_
      refine xi_virtual (mj := 91) (as := [.int (-2)]) (st1 := []) (lv0 := [(0, .ref 0), (1, .int (-2))]) kc_173_12 rfl rfl rfl rfl rfl (F 0 _ hl_0) (Nat.le_of_ble_eq_true rfl) (hJ _ _ _ _ (by decide)) (xm_le ml_91 rfl) rfl ?_
      refine xi_iload_n (pc' := 1) (x := (-2)) kc_91_0 rfl rfl ?_
      refine xi_ineg (pc' := 2) (v := 2) kc_91_1 rfl rfl ?_
      refine xi_istore_n (pc' := 3) (lv' := [(2, .int 2), (0, .ref 0), (1, .int (-2))]) kc_91_2 rfl rfl (xm_lt ml_91 rfl) ?_
      refine xi_iload_n (pc' := 4) (x := 2) kc_91_3 rfl rfl ?_
      refine xi_iff (pc' := 7) kc_91_4 rfl rfl ?_
      refine xi_iload_n (pc' := 8) (x := 2) kc_91_7 rfl rfl ?_
      refine xi_aload_n (pc' := 9) (x := 0) kc_91_8 rfl rfl ?_
      refine xi_getfield (pc' := 12) (v := .ref 94) kc_91_9 rfl rfl rfl (F 0 _ hl_0) rfl ?_
      refine xi_arraylength (pc' := 13) (n := 7) (v := 7) kc_91_12 rfl (xl_lenI (by decide) (by decide) (F 94 _ hl_94) (by simp only [List.length_replicate, List.length_cons, List.length_nil])) rfl ?_
      refine xi_cmf (pc' := 16) kc_91_13 rfl rfl ?_
      refine xi_aload_n (pc' := 17) (x := 0) kc_91_16 rfl rfl ?_
      refine xi_getfield (pc' := 20) (v := .ref 94) kc_91_17 rfl rfl rfl (F 0 _ hl_0) rfl ?_
      refine xi_iload_n (pc' := 21) (x := 2) kc_91_20 rfl rfl ?_
      refine xi_dup2 (pc' := 22) kc_91_21 rfl ⟨rfl, rfl⟩ ?_
      refine xi_iaload (pc' := 23) (v := 0) kc_91_22 rfl (F 94 _ hl_94) (by decide) rfl (xi_in (n := 7) (by decide) (by decide)) rfl ?_
      refine xi_iconst (pc' := 24) (v := 1) kc_91_23 rfl rfl ?_
      refine xi_iadd (pc' := 25) (v := 1) kc_91_24 rfl rfl ?_
      refine xi_iastore (pc' := 26) (x' := [0, 0, 1, 0, 0, 0, 0]) kc_91_25 rfl (F 94 _ hl_94) rfl (xi_in (n := 7) (by decide) (by decide)) rfl (fun hh1 eh1 => ?_)
      refine xi_iload_n (pc' := 27) (x := (-2)) kc_91_26 rfl rfl ?_
      refine xi_ireturn kc_91_27 mr_91 rfl ?_
      show xw J ov 99 173 (15, [(0, .ref 0), (1, .int a1)], [.int (-2)], hh1) _
      refine xi_ireturn kc_173_15 mr_173 rfl ?_
      show xw J ov 100 196 (1243, [(4, .int 0), (3, .ref 167), (2, .ref 115), (1, .ref 0), (0, .ref 1000000)], [.int (-2)], hh1) _
      refine xi_aload_n (pc' := 1244) (x := 115) kc_196_1243 rfl rfl ?_
      refine xi_aload_n (pc' := 1245) (x := 1000000) kc_196_1244 rfl rfl ?_
      refine xi_iload (pc' := 1247) (x := 0) kc_196_1245 rfl rfl ?_
      refine xi_iconst (pc' := 1248) (v := 1) kc_196_1247 rfl rfl ?_
      refine xi_iadd (pc' := 1249) (v := 1) kc_196_1248 rfl rfl ?_
      refine xi_ialoadO (pc' := 1250) (v := a1) kc_196_1249 rfl (by decide) hov0 (xi_in (n := 6) (by decide) (by decide)) rfl ?_
      refine xi_virtual (mj := 69) (as := [.int a1]) (st1 := [.int (-2)]) (lv0 := [(0, .ref 115), (1, .int a1)]) kc_196_1250 rfl rfl rfl rfl rfl ((eh1.2.1 115 (by decide)).trans (F 115 _ hl_115)) (Nat.le_of_ble_eq_true rfl) (hJ _ _ _ _ (by decide)) (xm_le ml_69 rfl) rfl ?_
      refine xi_aload_n (pc' := 1) (x := 115) kc_69_0 rfl rfl ?_
      refine xi_iconst (pc' := 2) (v := 0) kc_69_1 rfl rfl ?_
      refine xi_putfield (pc' := 5) (fs' := [.int 0, .int 0, .ref 116, .ref 117, .ref 118, .ref 119, .ref 120, .ref 121, .ref 122, .ref 123, .ref 124, .ref 125, .ref 126, .ref 127, .ref 128, .ref 129, .int 4, .ref 130, .int 0, .ref 131, .ref 132, .ref 133, .ref 134, .int 0, .ref 135, .ref 136, .ref 137, .ref 138, .ref 139, .ref 140, .ref 141, .ref 142, .int 0, .int 0, .int 0, .ref 143, .ref 144, .ref 145, .ref 146, .ref 147, .ref 148, .int 0, .ref 149, .ref 150, .ref 151, .int 0, .ref 152, .ref 153, .ref 154, .ref 155, .ref 156, .ref 157, .ref 158, .ref 159, .int 0, .ref 160, .int 0, .ref 161, .ref 162, .ref 163, .ref 164, .int 0, .ref 165, .ref 166]) kc_69_2 rfl rfl rfl ((eh1.2.1 115 (by decide)).trans (F 115 _ hl_115)) rfl rfl rfl (Nat.le_of_ble_eq_true rfl) rfl (fun hh2 eh2 => ?_)
      refine xi_iload_n (pc' := 6) (x := a1) kc_69_5 rfl rfl ?_
      refine xi_iconst (pc' := 7) (v := 0) kc_69_6 rfl rfl ?_
      refine xi_iconst (pc' := 8) (v := 1) kc_69_7 rfl rfl ?_
      refine xi_static (mj := 12) (as := [.int a1, .int 0, .int 1]) (st1 := []) (lv0 := [(0, .int a1), (1, .int 0), (2, .int 1)]) kc_69_8 rfl rfl (Nat.le_of_ble_eq_true rfl) rfl rfl (Nat.le_of_ble_eq_true rfl) (hJ _ _ _ _ (by decide)) (xm_le ml_12 rfl) rfl ?_
      refine xi_iload_n (pc' := 1) (x := a1) kc_12_0 rfl rfl ?_
      refine xi_iload_n (pc' := 2) (x := 0) kc_12_1 rfl rfl ?_
      by_cases c3 : a1.toInt < 0
      · refine xi_cmt (pc' := 14) kc_12_2 rfl (xc_lt_t (X := a1.toInt) (Y := 0) rfl (by decide) (by omega)) ?_
        refine xi_iconst (pc' := 15) (v := 0) kc_12_14 rfl rfl ?_
        refine xi_ireturn kc_12_15 mr_12 rfl ?_
        show xw J ov 99 69 (11, [(0, .ref 115), (1, .int a1)], [.int 0], hh2) _
        refine xi_iff (pc' := 14) kc_69_11 rfl rfl ?_
        refine xi_aload_n (pc' := 15) (x := 115) kc_69_14 rfl rfl ?_
        refine xi_bipush (pc' := 17) (v := (-2)) kc_69_15 rfl rfl ?_
        refine xi_virtual (mj := 13) (as := [.int (-2)]) (st1 := []) (lv0 := [(0, .ref 115), (1, .int (-2))]) kc_69_17 rfl rfl rfl rfl rfl eh2.1 (Nat.le_of_ble_eq_true rfl) (hJ _ _ _ _ (by decide)) (xm_le ml_13 rfl) rfl ?_
        refine xi_aload_n (pc' := 1) (x := 115) kc_13_0 rfl rfl ?_
        refine xi_getfield (pc' := 4) (v := .ref 140) kc_13_1 rfl rfl rfl eh2.1 rfl ?_
        refine xi_iload_n (pc' := 5) (x := (-2)) kc_13_4 rfl rfl ?_
        refine xi_ineg (pc' := 6) (v := 2) kc_13_5 rfl rfl ?_
        refine xi_dup2 (pc' := 7) kc_13_6 rfl ⟨rfl, rfl⟩ ?_
        refine xi_iaload (pc' := 8) (v := 0) kc_13_7 rfl ((eh2.2.1 140 (by decide)).trans ((eh1.2.1 140 (by decide)).trans (F 140 _ hl_140))) (by decide) rfl (xi_in (n := 7) (by decide) (by decide)) rfl ?_
        refine xi_iconst (pc' := 9) (v := 1) kc_13_8 rfl rfl ?_
        refine xi_iadd (pc' := 10) (v := 1) kc_13_9 rfl rfl ?_
        refine xi_iastore (pc' := 11) (x' := [0, 0, 1, 0, 0, 0, 0]) kc_13_10 rfl ((eh2.2.1 140 (by decide)).trans ((eh1.2.1 140 (by decide)).trans (F 140 _ hl_140))) rfl (xi_in (n := 7) (by decide) (by decide)) rfl (fun hh3 eh3 => ?_)
        refine xi_iload_n (pc' := 12) (x := (-2)) kc_13_11 rfl rfl ?_
        refine xi_ireturn kc_13_12 mr_13 rfl ?_
        show xw J ov 99 69 (20, [(0, .ref 115), (1, .int a1)], [.int (-2)], hh3) _
        refine xi_ireturn kc_69_20 mr_69 rfl ?_
        show xw J ov 100 196 (1253, [(4, .int 0), (3, .ref 167), (2, .ref 115), (1, .ref 0), (0, .ref 1000000)], [.int (-2), .int (-2)], hh3) _
        refine xi_cmt (pc' := 1528) kc_196_1253 rfl rfl ?_
        refine xi_iinc (pc' := 1531) (x := 0) (v := 6) (lv' := [(4, .int 6), (3, .ref 167), (2, .ref 115), (1, .ref 0), (0, .ref 1000000)]) kc_196_1528 rfl rfl rfl rfl (xm_lt ml_196 rfl) ?_
        refine xi_goto (pc' := 23) kc_196_1531 rfl ?_
        refine xi_iload (pc' := 25) (x := 6) kc_196_23 rfl rfl ?_
        refine xi_aload_n (pc' := 26) (x := 1000000) kc_196_25 rfl rfl ?_
        refine xi_arraylength (pc' := 27) (n := 6) (v := 6) kc_196_26 rfl (xl_lenO (by decide) hov0 rfl) rfl ?_
        refine xi_bipush (pc' := 29) (v := 6) kc_196_27 rfl rfl ?_
        refine xi_isub (pc' := 30) (v := 0) kc_196_29 rfl rfl ?_
        refine xi_cmt (pc' := 1534) kc_196_30 rfl rfl ?_
        refine xi_iconst (pc' := 1535) (v := 1) kc_196_1534 rfl rfl ?_
        refine xi_ireturn kc_196_1535 mr_196 rfl ?_
        refine ⟨rfl, ?_, ?_⟩
        · rw [eh3.2.2.1, eh2.2.2.1, eh1.2.2.1]; exact hn0
        · rw [eh3.2.2.2, eh2.2.2.2, eh1.2.2.2]; exact hz0
      · refine xi_cmf (pc' := 5) kc_12_2 rfl (xc_lt_f (X := a1.toInt) (Y := 0) rfl (by decide) (by omega)) ?_
        refine xi_iload_n (pc' := 6) (x := a1) kc_12_5 rfl rfl ?_
        refine xi_iload_n (pc' := 7) (x := 1) kc_12_6 rfl rfl ?_
        refine xi_cmt (pc' := 14) kc_12_7 rfl (xc_gt_t (X := a1.toInt) (Y := 1) rfl (by decide) (by omega)) ?_
        refine xi_iconst (pc' := 15) (v := 0) kc_12_14 rfl rfl ?_
        refine xi_ireturn kc_12_15 mr_12 rfl ?_
        show xw J ov 99 69 (11, [(0, .ref 115), (1, .int a1)], [.int 0], hh2) _
        refine xi_iff (pc' := 14) kc_69_11 rfl rfl ?_
        refine xi_aload_n (pc' := 15) (x := 115) kc_69_14 rfl rfl ?_
        refine xi_bipush (pc' := 17) (v := (-2)) kc_69_15 rfl rfl ?_
        refine xi_virtual (mj := 13) (as := [.int (-2)]) (st1 := []) (lv0 := [(0, .ref 115), (1, .int (-2))]) kc_69_17 rfl rfl rfl rfl rfl eh2.1 (Nat.le_of_ble_eq_true rfl) (hJ _ _ _ _ (by decide)) (xm_le ml_13 rfl) rfl ?_
        refine xi_aload_n (pc' := 1) (x := 115) kc_13_0 rfl rfl ?_
        refine xi_getfield (pc' := 4) (v := .ref 140) kc_13_1 rfl rfl rfl eh2.1 rfl ?_
        refine xi_iload_n (pc' := 5) (x := (-2)) kc_13_4 rfl rfl ?_
        refine xi_ineg (pc' := 6) (v := 2) kc_13_5 rfl rfl ?_
        refine xi_dup2 (pc' := 7) kc_13_6 rfl ⟨rfl, rfl⟩ ?_
        refine xi_iaload (pc' := 8) (v := 0) kc_13_7 rfl ((eh2.2.1 140 (by decide)).trans ((eh1.2.1 140 (by decide)).trans (F 140 _ hl_140))) (by decide) rfl (xi_in (n := 7) (by decide) (by decide)) rfl ?_
        refine xi_iconst (pc' := 9) (v := 1) kc_13_8 rfl rfl ?_
        refine xi_iadd (pc' := 10) (v := 1) kc_13_9 rfl rfl ?_
        refine xi_iastore (pc' := 11) (x' := [0, 0, 1, 0, 0, 0, 0]) kc_13_10 rfl ((eh2.2.1 140 (by decide)).trans ((eh1.2.1 140 (by decide)).trans (F 140 _ hl_140))) rfl (xi_in (n := 7) (by decide) (by decide)) rfl (fun hh3 eh3 => ?_)
        refine xi_iload_n (pc' := 12) (x := (-2)) kc_13_11 rfl rfl ?_
        refine xi_ireturn kc_13_12 mr_13 rfl ?_
        show xw J ov 99 69 (20, [(0, .ref 115), (1, .int a1)], [.int (-2)], hh3) _
        refine xi_ireturn kc_69_20 mr_69 rfl ?_
        show xw J ov 100 196 (1253, [(4, .int 0), (3, .ref 167), (2, .ref 115), (1, .ref 0), (0, .ref 1000000)], [.int (-2), .int (-2)], hh3) _
        refine xi_cmt (pc' := 1528) kc_196_1253 rfl rfl ?_
        refine xi_iinc (pc' := 1531) (x := 0) (v := 6) (lv' := [(4, .int 6), (3, .ref 167), (2, .ref 115), (1, .ref 0), (0, .ref 1000000)]) kc_196_1528 rfl rfl rfl rfl (xm_lt ml_196 rfl) ?_
        refine xi_goto (pc' := 23) kc_196_1531 rfl ?_
        refine xi_iload (pc' := 25) (x := 6) kc_196_23 rfl rfl ?_
        refine xi_aload_n (pc' := 26) (x := 1000000) kc_196_25 rfl rfl ?_
        refine xi_arraylength (pc' := 27) (n := 6) (v := 6) kc_196_26 rfl (xl_lenO (by decide) hov0 rfl) rfl ?_
        refine xi_bipush (pc' := 29) (v := 6) kc_196_27 rfl rfl ?_
        refine xi_isub (pc' := 30) (v := 0) kc_196_29 rfl rfl ?_
        refine xi_cmt (pc' := 1534) kc_196_30 rfl rfl ?_
        refine xi_iconst (pc' := 1535) (v := 1) kc_196_1534 rfl rfl ?_
        refine xi_ireturn kc_196_1535 mr_196 rfl ?_
        refine ⟨rfl, ?_, ?_⟩
        · rw [eh3.2.2.1, eh2.2.2.1, eh1.2.2.1]; exact hn0
        · rw [eh3.2.2.2, eh2.2.2.2, eh1.2.2.2]; exact hz0
