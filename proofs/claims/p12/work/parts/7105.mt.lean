set_option maxHeartbeats 4000000 in
theorem lp_183_0 {J : xe_J} {ov : List (List Int32)} (hJ : ∀ d mj as h, mj ≠ xe_loff → J d mj as h = none) (hov1 : ov[1]? = some [10, 0, 0, 0, 0, 0]) (hov2 : ov[2]? = some [99, 30, 50, 50, 1, 99999]) {d : Nat} {Q : Option Value → xe_H → Prop} {hb : xe_H} (kk : (∀ (r : Int32) (h' : xe_H), (0 ≤ r.toInt ∧ r.toInt ≤ 1) → xk [(0, 9), (115, 1), (83, 0), (29, 0), (31, 0), (33, 0), (35, 0), (37, 0), (39, 0), (41, 0), (43, 0), (45, 0), (47, 0), (49, 0), (51, 0), (125, 0), (66, 8), (115, 18), (71, 0), (132, 0)] hb h' → Q (some (.int r)) h')) : ∀ m : Nat, (∀ (x1 : Int32) (x2 : Int32) (x3 : Int32) (h : xe_H), (0 ≤ x1.toInt ∧ x1.toInt ≤ 63) → (0 ≤ x2.toInt ∧ x2.toInt ≤ 3) → (0 ≤ x3.toInt ∧ x3.toInt ≤ 10) → xk [(0, 9), (115, 1), (83, 0), (29, 0), (31, 0), (33, 0), (35, 0), (37, 0), (39, 0), (41, 0), (43, 0), (45, 0), (47, 0), (49, 0), (51, 0), (125, 0), (66, 8), (115, 18), (71, 0), (132, 0)] hb h → (-1) * x3.toInt + 10 < (m : Int) → xw J ov (d + 1) 183 (2, [(0, .ref 1), (1, .int x1), (2, .int x2), (3, .int x3)], [], h) Q) := by
  intro m
  induction m with
  | zero =>
    intro x1 x2 x3 h b1 b2 b3 K hm; exfalso; omega
  | succ m ih =>
    have i0 := ih
    intro x1 x2 x3 h b1 b2 b3 K hm
    refine xi_iload_n (pc' := 3) (x := x3) kc_183_2 rfl rfl ?_
    refine xi_aload_n (pc' := 4) (x := 1) kc_183_3 rfl rfl ?_
    refine xp_1 K.1 (fun u1 u2 bu1 bu2 A3 => ?_)
    refine xi_getfield (pc' := 7) (v := .int u1) kc_183_4 rfl rfl rfl A3 rfl ?_
    by_cases c4 : u1.toInt ≤ x3.toInt
    · refine xi_cmt (pc' := 45) kc_183_7 rfl (xc_ge_t (X := x3.toInt) (Y := u1.toInt) rfl rfl (by omega)) ?_
      refine xi_iconst (pc' := 46) (v := 0) kc_183_45 rfl rfl ?_
      refine xi_ireturn kc_183_46 mr_183 rfl ?_
      have zc0 : (0 : Int32).toInt = 0 := by decide
      exact kk 0 h (by omega) K
    · refine xi_cmf (pc' := 10) kc_183_7 rfl (xc_ge_f (X := x3.toInt) (Y := u1.toInt) rfl rfl (by omega)) ?_
      refine xi_iload_n (pc' := 11) (x := x3) kc_183_10 rfl rfl ?_
      refine xi_bipush (pc' := 13) (v := 10) kc_183_11 rfl rfl ?_
      refine xi_cmf (pc' := 16) kc_183_13 rfl (xc_ge_f (X := x3.toInt) (Y := 10) rfl (by decide) (by omega)) ?_
      refine xi_iload_n (pc' := 17) (x := x1) kc_183_16 rfl rfl ?_
      refine xi_iload_n (pc' := 18) (x := x3) kc_183_17 rfl rfl ?_
      refine xcps2 (α := Int32) ((x1 : Int32) >>> (x3 &&& 31)) (fun v5 ev5 => ?_)
      have rv5 := xc_rng v5
      refine xi_ishr (pc' := 19) (v := v5) kc_183_18 rfl ev5 ?_
      refine xi_iconst (pc' := 20) (v := 1) kc_183_19 rfl rfl ?_
      refine xcps2 (α := Int32) ((v5 : Int32) &&& 1) (fun v6 ev6 => ?_)
      have rv6 := xc_rng v6
      refine xi_iand (pc' := 21) (v := v6) kc_183_20 rfl ev6 ?_
      by_cases c7 : v6.toInt = 0
      · refine xi_ift (pc' := 39) kc_183_21 rfl (xc_eq_t (X := v6.toInt) (Y := 0) rfl (by decide) (by omega)) ?_
        refine xcps2 (α := Int32) (x3 + 1) (fun v8 ev8 => ?_)
        have zv8 : v8.toInt = (x3.toInt + 1) := by rw [← ev8]; exact (xz_add (X := x3.toInt) (Y := 1) rfl (by decide) (by omega) (by omega)).trans (by omega)
        refine xi_iinc (pc' := 42) (x := x3) (v := v8) (lv' := [(3, .int v8), (0, .ref 1), (1, .int x1), (2, .int x2)]) kc_183_39 rfl rfl ev8 rfl (xm_lt ml_183 rfl) ?_
        refine xi_goto (pc' := 2) kc_183_42 rfl ?_
        refine xw_lv (b := [(0, .ref 1), (1, .int x1), (2, .int x2), (3, .int v8)]) (lvS_cons (lvS_cons (lvS_cons (lvS_cons (lvS_nil (show ([3, 0, 1, 2] : List Nat).Nodup by decide)) rfl) rfl) rfl) rfl) ?_
        exact i0 x1 x2 v8 h (by omega) (by omega) (by omega) K (by omega)
      · refine xi_iff (pc' := 24) kc_183_21 rfl (xc_eq_f (X := v6.toInt) (Y := 0) rfl (by decide) (by omega)) ?_
        refine xi_aload_n (pc' := 25) (x := 1) kc_183_24 rfl rfl ?_
        refine xi_getfield (pc' := 28) (v := .ref 4) kc_183_25 rfl rfl rfl A3 rfl ?_
        refine xi_iload_n (pc' := 29) (x := x3) kc_183_28 rfl rfl ?_
        have A9 := xk_ex K.1 xD_4
        obtain ⟨pt10, ept10, mpt10⟩ := xR_4 (i := x3) (by omega) (by omega)
        refine xj_aaload (pc' := 30) (b := pt10) kc_183_29 rfl A9 rfl (xi_in (n := 10) (by omega) (by omega)) ept10 ?_
        obtain ⟨u11, u12, u13, u14, bu11, bu12, bu13, bu14, A15⟩ := xg_cause K.1 mpt10
        refine xi_getfield (pc' := 33) (v := .int u11) kc_183_30 rfl rfl rfl A15 rfl ?_
        refine xi_iload_n (pc' := 34) (x := x2) kc_183_33 rfl rfl ?_
        by_cases c16 : u11.toInt = x2.toInt
        · refine xi_cmf (pc' := 37) kc_183_34 rfl (xc_ne_f (X := u11.toInt) (Y := x2.toInt) rfl rfl (by omega)) ?_
          refine xi_iconst (pc' := 38) (v := 1) kc_183_37 rfl rfl ?_
          refine xi_ireturn kc_183_38 mr_183 rfl ?_
          have zc1 : (1 : Int32).toInt = 1 := by decide
          exact kk 1 h (by omega) K
        · refine xi_cmt (pc' := 39) kc_183_34 rfl (xc_ne_t (X := u11.toInt) (Y := x2.toInt) rfl rfl (by omega)) ?_
          refine xcps2 (α := Int32) (x3 + 1) (fun v17 ev17 => ?_)
          have zv17 : v17.toInt = (x3.toInt + 1) := by rw [← ev17]; exact (xz_add (X := x3.toInt) (Y := 1) rfl (by decide) (by omega) (by omega)).trans (by omega)
          refine xi_iinc (pc' := 42) (x := x3) (v := v17) (lv' := [(3, .int v17), (0, .ref 1), (1, .int x1), (2, .int x2)]) kc_183_39 rfl rfl ev17 rfl (xm_lt ml_183 rfl) ?_
          refine xi_goto (pc' := 2) kc_183_42 rfl ?_
          refine xw_lv (b := [(0, .ref 1), (1, .int x1), (2, .int x2), (3, .int v17)]) (lvS_cons (lvS_cons (lvS_cons (lvS_cons (lvS_nil (show ([3, 0, 1, 2] : List Nat).Nodup by decide)) rfl) rfl) rfl) rfl) ?_
          exact i0 x1 x2 v17 h (by omega) (by omega) (by omega) K (by omega)
set_option maxHeartbeats 4000000 in
theorem mt_183_0 {J : xe_J} {ov : List (List Int32)} (hJ : ∀ d mj as h, mj ≠ xe_loff → J d mj as h = none) (hov1 : ov[1]? = some [10, 0, 0, 0, 0, 0]) (hov2 : ov[2]? = some [99, 30, 50, 50, 1, 99999]) {d : Nat} {Q : Option Value → xe_H → Prop} {h : xe_H} {x1 : Int32} {x2 : Int32} (T : xt h) (b1 : (0 ≤ x1.toInt ∧ x1.toInt ≤ 63)) (b2 : (0 ≤ x2.toInt ∧ x2.toInt ≤ 3)) (kk : (∀ (r : Int32) (h' : xe_H), (0 ≤ r.toInt ∧ r.toInt ≤ 1) → xk [(0, 9), (115, 1), (83, 0), (29, 0), (31, 0), (33, 0), (35, 0), (37, 0), (39, 0), (41, 0), (43, 0), (45, 0), (47, 0), (49, 0), (51, 0), (125, 0), (66, 8), (115, 18), (71, 0), (132, 0)] h h' → Q (some (.int r)) h')) : xw J ov (d + 1) 183 (0, [(0, .ref 1), (1, .int x1), (2, .int x2)], [], h) Q := by
  have K : xk [(0, 9), (115, 1), (83, 0), (29, 0), (31, 0), (33, 0), (35, 0), (37, 0), (39, 0), (41, 0), (43, 0), (45, 0), (47, 0), (49, 0), (51, 0), (125, 0), (66, 8), (115, 18), (71, 0), (132, 0)] h h := xk_re T
  refine xi_iconst (pc' := 1) (v := 0) kc_183_0 rfl rfl ?_
  refine xi_istore_n (pc' := 2) (lv' := [(3, .int 0), (0, .ref 1), (1, .int x1), (2, .int x2)]) kc_183_1 rfl rfl (xm_lt ml_183 rfl) ?_
  have zc0 : (0 : Int32).toInt = 0 := by decide
  refine xw_lv (b := [(0, .ref 1), (1, .int x1), (2, .int x2), (3, .int 0)]) (lvS_cons (lvS_cons (lvS_cons (lvS_cons (lvS_nil (show ([3, 0, 1, 2] : List Nat).Nodup by decide)) rfl) rfl) rfl) rfl) ?_
  exact (lp_183_0 hJ hov1 hov2 (d := d) (hb := h) (fun r9 h9 b9 K9 => kk r9 h9 b9 (xk_tr K K9 rfl)) 11) x1 x2 0 h (by omega) (by omega) (by omega) (xk_re K.1) (by omega)
set_option maxHeartbeats 4000000 in
theorem lp_185_0 {J : xe_J} {ov : List (List Int32)} (hJ : ∀ d mj as h, mj ≠ xe_loff → J d mj as h = none) (hov1 : ov[1]? = some [10, 0, 0, 0, 0, 0]) (hov2 : ov[2]? = some [99, 30, 50, 50, 1, 99999]) {d : Nat} {Q : Option Value → xe_H → Prop} {hb : xe_H} (kk : (∀ (r : Int32) (h' : xe_H), ((-9) ≤ r.toInt ∧ r.toInt ≤ 11) → xk [(0, 9), (115, 1), (83, 0), (29, 0), (31, 0), (33, 0), (35, 0), (37, 0), (39, 0), (41, 0), (43, 0), (45, 0), (47, 0), (49, 0), (51, 0), (125, 0), (66, 8), (115, 18), (71, 0), (132, 0)] hb h' → Q (some (.int r)) h')) : ∀ m : Nat, (∀ (x1 : Int32) (x2 : Int32) (x3 : Int32) (x4 : Int32) (x5 : Int32) (h : xe_H), (0 ≤ x1.toInt ∧ x1.toInt ≤ 3) → ((-9) ≤ x3.toInt ∧ x3.toInt ≤ 11) → ((-9) ≤ x4.toInt ∧ x4.toInt ≤ 2147483647) → (0 ≤ x5.toInt ∧ x5.toInt ≤ 12) → xk [(0, 9), (115, 1), (83, 0), (29, 0), (31, 0), (33, 0), (35, 0), (37, 0), (39, 0), (41, 0), (43, 0), (45, 0), (47, 0), (49, 0), (51, 0), (125, 0), (66, 8), (115, 18), (71, 0), (132, 0)] hb h → (-1) * x5.toInt + 12 < (m : Int) → xw J ov (d + 1) 185 (10, [(0, .ref 85), (1, .int x1), (2, .int x2), (3, .int x3), (4, .int x4), (5, .int x5)], [], h) Q) := by
  intro m
  induction m with
  | zero =>
    intro x1 x2 x3 x4 x5 h b1 b3 b4 b5 K hm; have rx2 := xc_rng x2; exfalso; omega
  | succ m ih =>
    have i0 := ih
    intro x1 x2 x3 x4 x5 h b1 b3 b4 b5 K hm
    have rx2 := xc_rng x2
    refine xi_iload (pc' := 12) (x := x5) kc_185_10 rfl rfl ?_
    refine xi_aload_n (pc' := 13) (x := 85) kc_185_12 rfl rfl ?_
    refine xp_85 K.1 (fun u1 u2 bu1 bu2 A3 => ?_)
    refine xi_getfield (pc' := 16) (v := .int u2) kc_185_13 rfl rfl rfl A3 rfl ?_
    by_cases c4 : u2.toInt ≤ x5.toInt
    · refine xi_cmt (pc' := 78) kc_185_16 rfl (xc_ge_t (X := x5.toInt) (Y := u2.toInt) rfl rfl (by omega)) ?_
      refine xi_iload_n (pc' := 79) (x := x3) kc_185_78 rfl rfl ?_
      refine xi_ireturn kc_185_79 mr_185 rfl ?_
      exact kk x3 h (by omega) K
    · refine xi_cmf (pc' := 19) kc_185_16 rfl (xc_ge_f (X := x5.toInt) (Y := u2.toInt) rfl rfl (by omega)) ?_
      refine xi_iload (pc' := 21) (x := x5) kc_185_19 rfl rfl ?_
      refine xi_bipush (pc' := 23) (v := 12) kc_185_21 rfl rfl ?_
      refine xi_cmf (pc' := 26) kc_185_23 rfl (xc_ge_f (X := x5.toInt) (Y := 12) rfl (by decide) (by omega)) ?_
      refine xi_aload_n (pc' := 27) (x := 85) kc_185_26 rfl rfl ?_
      refine xi_getfield (pc' := 30) (v := .ref 87) kc_185_27 rfl rfl rfl A3 rfl ?_
      refine xi_iload (pc' := 32) (x := x5) kc_185_30 rfl rfl ?_
      refine xcps4 (xk_arr K.1 xD_87) (fun y5 A5 hy5 ry5 => ?_)
      refine xcps4 (xj_get hy5 ry5 (i := x5) (by omega) (by omega)) (fun v6 ev6 bv6 dv6 => ?_)
      refine xi_iaload (pc' := 33) (v := v6) kc_185_32 rfl A5 (by decide) rfl (xi_in (by omega) (by rw [hy5]; omega)) ev6 ?_
      refine xi_iload_n (pc' := 34) (x := x1) kc_185_33 rfl rfl ?_
      by_cases c7 : v6.toInt = x1.toInt
      · refine xi_cmf (pc' := 37) kc_185_34 rfl (xc_ne_f (X := v6.toInt) (Y := x1.toInt) rfl rfl (by omega)) ?_
        refine xi_aload_n (pc' := 38) (x := 85) kc_185_37 rfl rfl ?_
        refine xi_getfield (pc' := 41) (v := .ref 86) kc_185_38 rfl rfl rfl A3 rfl ?_
        refine xi_iload (pc' := 43) (x := x5) kc_185_41 rfl rfl ?_
        refine xcps4 (xk_arr K.1 xD_86) (fun y8 A8 hy8 ry8 => ?_)
        refine xcps4 (xj_get hy8 ry8 (i := x5) (by omega) (by omega)) (fun v9 ev9 bv9 dv9 => ?_)
        refine xi_iaload (pc' := 44) (v := v9) kc_185_43 rfl A8 (by decide) rfl (xi_in (by omega) (by rw [hy8]; omega)) ev9 ?_
        refine xi_iload_n (pc' := 45) (x := x2) kc_185_44 rfl rfl ?_
        by_cases c10 : x2.toInt < v9.toInt
        · refine xi_cmt (pc' := 72) kc_185_45 rfl (xc_gt_t (X := v9.toInt) (Y := x2.toInt) rfl rfl (by omega)) ?_
          refine xcps2 (α := Int32) (x5 + 1) (fun v11 ev11 => ?_)
          have zv11 : v11.toInt = (x5.toInt + 1) := by rw [← ev11]; exact (xz_add (X := x5.toInt) (Y := 1) rfl (by decide) (by omega) (by omega)).trans (by omega)
          refine xi_iinc (pc' := 75) (x := x5) (v := v11) (lv' := [(5, .int v11), (0, .ref 85), (1, .int x1), (2, .int x2), (3, .int x3), (4, .int x4)]) kc_185_72 rfl rfl ev11 rfl (xm_lt ml_185 rfl) ?_
          refine xi_goto (pc' := 10) kc_185_75 rfl ?_
          refine xw_lv (b := [(0, .ref 85), (1, .int x1), (2, .int x2), (3, .int x3), (4, .int x4), (5, .int v11)]) (lvS_cons (lvS_cons (lvS_cons (lvS_cons (lvS_cons (lvS_cons (lvS_nil (show ([5, 0, 1, 2, 3, 4] : List Nat).Nodup by decide)) rfl) rfl) rfl) rfl) rfl) rfl) ?_
          exact i0 x1 x2 x3 x4 v11 h (by omega) (by omega) (by omega) (by omega) K (by omega)
        · refine xi_cmf (pc' := 48) kc_185_45 rfl (xc_gt_f (X := v9.toInt) (Y := x2.toInt) rfl rfl (by omega)) ?_
          refine xi_aload_n (pc' := 49) (x := 85) kc_185_48 rfl rfl ?_
          refine xi_getfield (pc' := 52) (v := .ref 86) kc_185_49 rfl rfl rfl A3 rfl ?_
          refine xi_iload (pc' := 54) (x := x5) kc_185_52 rfl rfl ?_
          refine xi_iaload (pc' := 55) (v := v9) kc_185_54 rfl A8 (by decide) rfl (xi_in (by omega) (by rw [hy8]; omega)) ev9 ?_
          refine xi_iload (pc' := 57) (x := x4) kc_185_55 rfl rfl ?_
          by_cases c12 : v9.toInt < x4.toInt
          · refine xi_cmt (pc' := 72) kc_185_57 rfl (xc_lt_t (X := v9.toInt) (Y := x4.toInt) rfl rfl (by omega)) ?_
            refine xcps2 (α := Int32) (x5 + 1) (fun v13 ev13 => ?_)
            have zv13 : v13.toInt = (x5.toInt + 1) := by rw [← ev13]; exact (xz_add (X := x5.toInt) (Y := 1) rfl (by decide) (by omega) (by omega)).trans (by omega)
            refine xi_iinc (pc' := 75) (x := x5) (v := v13) (lv' := [(5, .int v13), (0, .ref 85), (1, .int x1), (2, .int x2), (3, .int x3), (4, .int x4)]) kc_185_72 rfl rfl ev13 rfl (xm_lt ml_185 rfl) ?_
            refine xi_goto (pc' := 10) kc_185_75 rfl ?_
            refine xw_lv (b := [(0, .ref 85), (1, .int x1), (2, .int x2), (3, .int x3), (4, .int x4), (5, .int v13)]) (lvS_cons (lvS_cons (lvS_cons (lvS_cons (lvS_cons (lvS_cons (lvS_nil (show ([5, 0, 1, 2, 3, 4] : List Nat).Nodup by decide)) rfl) rfl) rfl) rfl) rfl) rfl) ?_
            exact i0 x1 x2 x3 x4 v13 h (by omega) (by omega) (by omega) (by omega) K (by omega)
          · refine xi_cmf (pc' := 60) kc_185_57 rfl (xc_lt_f (X := v9.toInt) (Y := x4.toInt) rfl rfl (by omega)) ?_
            refine xi_iload (pc' := 62) (x := x5) kc_185_60 rfl rfl ?_
            refine xi_istore_n (pc' := 63) (lv' := [(3, .int x5), (0, .ref 85), (1, .int x1), (2, .int x2), (4, .int x4), (5, .int x5)]) kc_185_62 rfl rfl (xm_lt ml_185 rfl) ?_
            refine xi_aload_n (pc' := 64) (x := 85) kc_185_63 rfl rfl ?_
            refine xi_getfield (pc' := 67) (v := .ref 86) kc_185_64 rfl rfl rfl A3 rfl ?_
            refine xi_iload (pc' := 69) (x := x5) kc_185_67 rfl rfl ?_
            refine xi_iaload (pc' := 70) (v := v9) kc_185_69 rfl A8 (by decide) rfl (xi_in (by omega) (by rw [hy8]; omega)) ev9 ?_
            refine xi_istore (pc' := 72) (lv' := [(4, .int v9), (3, .int x5), (0, .ref 85), (1, .int x1), (2, .int x2), (5, .int x5)]) kc_185_70 rfl rfl (xm_lt ml_185 rfl) ?_
            refine xcps2 (α := Int32) (x5 + 1) (fun v14 ev14 => ?_)
            have zv14 : v14.toInt = (x5.toInt + 1) := by rw [← ev14]; exact (xz_add (X := x5.toInt) (Y := 1) rfl (by decide) (by omega) (by omega)).trans (by omega)
            refine xi_iinc (pc' := 75) (x := x5) (v := v14) (lv' := [(5, .int v14), (4, .int v9), (3, .int x5), (0, .ref 85), (1, .int x1), (2, .int x2)]) kc_185_72 rfl rfl ev14 rfl (xm_lt ml_185 rfl) ?_
            refine xi_goto (pc' := 10) kc_185_75 rfl ?_
            refine xw_lv (b := [(0, .ref 85), (1, .int x1), (2, .int x2), (3, .int x5), (4, .int v9), (5, .int v14)]) (lvS_cons (lvS_cons (lvS_cons (lvS_cons (lvS_cons (lvS_cons (lvS_nil (show ([5, 4, 3, 0, 1, 2] : List Nat).Nodup by decide)) rfl) rfl) rfl) rfl) rfl) rfl) ?_
            exact i0 x1 x2 x5 v9 v14 h (by omega) (by omega) (by omega) (by omega) K (by omega)
      · refine xi_cmt (pc' := 72) kc_185_34 rfl (xc_ne_t (X := v6.toInt) (Y := x1.toInt) rfl rfl (by omega)) ?_
        refine xcps2 (α := Int32) (x5 + 1) (fun v15 ev15 => ?_)
        have zv15 : v15.toInt = (x5.toInt + 1) := by rw [← ev15]; exact (xz_add (X := x5.toInt) (Y := 1) rfl (by decide) (by omega) (by omega)).trans (by omega)
        refine xi_iinc (pc' := 75) (x := x5) (v := v15) (lv' := [(5, .int v15), (0, .ref 85), (1, .int x1), (2, .int x2), (3, .int x3), (4, .int x4)]) kc_185_72 rfl rfl ev15 rfl (xm_lt ml_185 rfl) ?_
        refine xi_goto (pc' := 10) kc_185_75 rfl ?_
        refine xw_lv (b := [(0, .ref 85), (1, .int x1), (2, .int x2), (3, .int x3), (4, .int x4), (5, .int v15)]) (lvS_cons (lvS_cons (lvS_cons (lvS_cons (lvS_cons (lvS_cons (lvS_nil (show ([5, 0, 1, 2, 3, 4] : List Nat).Nodup by decide)) rfl) rfl) rfl) rfl) rfl) rfl) ?_
        exact i0 x1 x2 x3 x4 v15 h (by omega) (by omega) (by omega) (by omega) K (by omega)
set_option maxHeartbeats 4000000 in
theorem mt_185_0 {J : xe_J} {ov : List (List Int32)} (hJ : ∀ d mj as h, mj ≠ xe_loff → J d mj as h = none) (hov1 : ov[1]? = some [10, 0, 0, 0, 0, 0]) (hov2 : ov[2]? = some [99, 30, 50, 50, 1, 99999]) {d : Nat} {Q : Option Value → xe_H → Prop} {h : xe_H} {x1 : Int32} {x2 : Int32} (T : xt h) (b1 : (0 ≤ x1.toInt ∧ x1.toInt ≤ 3)) (b2 : ((-89478486) ≤ x2.toInt ∧ x2.toInt ≤ 89478486)) (kk : (∀ (r : Int32) (h' : xe_H), ((-9) ≤ r.toInt ∧ r.toInt ≤ 11) → xk [(0, 9), (115, 1), (83, 0), (29, 0), (31, 0), (33, 0), (35, 0), (37, 0), (39, 0), (41, 0), (43, 0), (45, 0), (47, 0), (49, 0), (51, 0), (125, 0), (66, 8), (115, 18), (71, 0), (132, 0)] h h' → Q (some (.int r)) h')) : xw J ov (d + 1) 185 (0, [(0, .ref 85), (1, .int x1), (2, .int x2)], [], h) Q := by
  have K : xk [(0, 9), (115, 1), (83, 0), (29, 0), (31, 0), (33, 0), (35, 0), (37, 0), (39, 0), (41, 0), (43, 0), (45, 0), (47, 0), (49, 0), (51, 0), (125, 0), (66, 8), (115, 18), (71, 0), (132, 0)] h h := xk_re T
  refine xi_bipush (pc' := 2) (v := (-9)) kc_185_0 rfl rfl ?_
  refine xi_istore_n (pc' := 3) (lv' := [(3, .int (-9)), (0, .ref 85), (1, .int x1), (2, .int x2)]) kc_185_2 rfl rfl (xm_lt ml_185 rfl) ?_
  refine xi_bipush (pc' := 5) (v := (-9)) kc_185_3 rfl rfl ?_
  refine xi_istore (pc' := 7) (lv' := [(4, .int (-9)), (3, .int (-9)), (0, .ref 85), (1, .int x1), (2, .int x2)]) kc_185_5 rfl rfl (xm_lt ml_185 rfl) ?_
  refine xi_iconst (pc' := 8) (v := 0) kc_185_7 rfl rfl ?_
  refine xi_istore (pc' := 10) (lv' := [(5, .int 0), (4, .int (-9)), (3, .int (-9)), (0, .ref 85), (1, .int x1), (2, .int x2)]) kc_185_8 rfl rfl (xm_lt ml_185 rfl) ?_
  have zcm9 : ((-9) : Int32).toInt = (-9) := by decide
  have zc0 : (0 : Int32).toInt = 0 := by decide
  refine xw_lv (b := [(0, .ref 85), (1, .int x1), (2, .int x2), (3, .int (-9)), (4, .int (-9)), (5, .int 0)]) (lvS_cons (lvS_cons (lvS_cons (lvS_cons (lvS_cons (lvS_cons (lvS_nil (show ([5, 4, 3, 0, 1, 2] : List Nat).Nodup by decide)) rfl) rfl) rfl) rfl) rfl) rfl) ?_
  exact (lp_185_0 hJ hov1 hov2 (d := d) (hb := h) (fun r9 h9 b9 K9 => kk r9 h9 b9 (xk_tr K K9 rfl)) 13) x1 x2 (-9) (-9) 0 h (by omega) (by omega) (by omega) (by omega) (xk_re K.1) (by omega)
set_option maxHeartbeats 4000000 in
theorem mt_182_0 {J : xe_J} {ov : List (List Int32)} (hJ : ∀ d mj as h, mj ≠ xe_loff → J d mj as h = none) (hov1 : ov[1]? = some [10, 0, 0, 0, 0, 0]) (hov2 : ov[2]? = some [99, 30, 50, 50, 1, 99999]) {d : Nat} {Q : Option Value → xe_H → Prop} {h : xe_H} {x1 : Int32} {x2 : Int32} (T : xt h) (kk : (∀ (r : Int32) (h' : xe_H), xk [(0, 9), (115, 1), (83, 0), (29, 0), (31, 0), (33, 0), (35, 0), (37, 0), (39, 0), (41, 0), (43, 0), (45, 0), (47, 0), (49, 0), (51, 0), (125, 0), (66, 8), (115, 18), (71, 0), (132, 0)] h h' → Q (some (.int r)) h')) : xw J ov (d + 7) 182 (0, [(0, .ref 0), (1, .int x1), (2, .int x2)], [], h) Q := by
  have K : xk [(0, 9), (115, 1), (83, 0), (29, 0), (31, 0), (33, 0), (35, 0), (37, 0), (39, 0), (41, 0), (43, 0), (45, 0), (47, 0), (49, 0), (51, 0), (125, 0), (66, 8), (115, 18), (71, 0), (132, 0)] h h := xk_re T
  have rx1 := xc_rng x1
  have rx2 := xc_rng x2
  refine xi_iload_n (pc' := 1) (x := x1) kc_182_0 rfl rfl ?_
  refine xi_static (mj := 117) (as := [.int x1]) (st1 := []) (lv0 := [(0, .int x1)]) kc_182_1 rfl rfl (Nat.le_of_ble_eq_true rfl) rfl rfl (Nat.le_of_ble_eq_true rfl) (hJ _ _ _ _ (by decide)) (xm_le ml_117 rfl) rfl ?_
  refine xi_iload_n (pc' := 1) (x := x1) kc_117_0 rfl rfl ?_
  by_cases c1 : x1.toInt < 0
  · refine xi_ift (pc' := 13) kc_117_1 rfl (xc_lt_t (X := x1.toInt) (Y := 0) rfl (by decide) (by omega)) ?_
    refine xi_iconst (pc' := 14) (v := 0) kc_117_13 rfl rfl ?_
    refine xi_ireturn kc_117_14 mr_117 rfl ?_
    show xw J ov (d + 7) 182 (4, [(0, .ref 0), (1, .int x1), (2, .int x2)], [.int 0], h) _
    refine xi_ift (pc' := 16) kc_182_4 rfl rfl ?_
    refine xi_aload_n (pc' := 17) (x := 0) kc_182_16 rfl rfl ?_
    refine xi_bipush (pc' := 19) (v := (-2)) kc_182_17 rfl rfl ?_
    refine xp_0 K.1 (fun u2 u3 bu2 bu3 A4 => ?_)
    refine xi_virtual (mj := 90) (as := [.int (-2)]) (st1 := []) (lv0 := [(0, .ref 0), (1, .int (-2))]) kc_182_19 rfl rfl rfl rfl rfl A4 (Nat.le_of_ble_eq_true rfl) (hJ _ _ _ _ (by decide)) (xm_le ml_90 rfl) rfl ?_
    refine xi_iload_n (pc' := 1) (x := (-2)) kc_90_0 rfl rfl ?_
    refine xi_ineg (pc' := 2) (v := 2) kc_90_1 rfl rfl ?_
    refine xi_istore_n (pc' := 3) (lv' := [(2, .int 2), (0, .ref 0), (1, .int (-2))]) kc_90_2 rfl rfl (xm_lt ml_90 rfl) ?_
    refine xi_iload_n (pc' := 4) (x := 2) kc_90_3 rfl rfl ?_
    refine xi_iff (pc' := 7) kc_90_4 rfl rfl ?_
    refine xi_iload_n (pc' := 8) (x := 2) kc_90_7 rfl rfl ?_
    refine xi_aload_n (pc' := 9) (x := 0) kc_90_8 rfl rfl ?_
    refine xi_getfield (pc' := 12) (v := .ref 94) kc_90_9 rfl rfl rfl A4 rfl ?_
    refine xcps4 (xk_arr K.1 xD_94) (fun y5 A5 hy5 ry5 => ?_)
    refine xi_arraylength (pc' := 13) (n := 7) (v := 7) kc_90_12 rfl (xl_lenI (by decide) (by decide) A5 hy5) rfl ?_
    refine xi_cmf (pc' := 16) kc_90_13 rfl rfl ?_
    refine xi_aload_n (pc' := 17) (x := 0) kc_90_16 rfl rfl ?_
    refine xi_getfield (pc' := 20) (v := .ref 94) kc_90_17 rfl rfl rfl A4 rfl ?_
    refine xi_iload_n (pc' := 21) (x := 2) kc_90_20 rfl rfl ?_
    refine xi_dup2 (pc' := 22) kc_90_21 rfl ⟨rfl, rfl⟩ ?_
    refine xcps4 (xj_get hy5 ry5 (i := 2) (by decide) (by decide)) (fun v6 ev6 bv6 dv6 => ?_)
    refine xi_iaload (pc' := 23) (v := v6) kc_90_22 rfl A5 (by decide) rfl (xi_in (by decide) (by rw [hy5]; decide)) ev6 ?_
    refine xi_iconst (pc' := 24) (v := 1) kc_90_23 rfl rfl ?_
    refine xcps2 (α := Int32) ((v6 : Int32) + 1) (fun v7 ev7 => ?_)
    have rv7 := xc_rng v7
    refine xi_iadd (pc' := 25) (v := v7) kc_90_24 rfl ev7 ?_
    refine xcps4 (xj_set (v := v7) hy5 ry5 2 (by first | omega | decide) (by first | omega | decide)) (fun y8 s8 hy8 ry8 => ?_)
    refine xi_iastore (pc' := 26) (x' := y8) kc_90_25 rfl A5 rfl (xi_in (by decide) (by rw [hy5]; decide)) s8 (fun hh8 eh8 => ?_)
    have K9 := xk_pa K (xk_wa rfl) xD_94 hy8 ry8 eh8
    refine xi_iload_n (pc' := 27) (x := (-2)) kc_90_26 rfl rfl ?_
    refine xi_ireturn kc_90_27 mr_90 rfl ?_
    show xw J ov (d + 7) 182 (22, [(0, .ref 0), (1, .int x1), (2, .int x2)], [.int (-2)], hh8) _
    refine xi_ireturn kc_182_22 mr_182 rfl ?_
    have zcm2 : ((-2) : Int32).toInt = (-2) := by decide
    exact kk (-2) hh8 K9
  · refine xi_iff (pc' := 4) kc_117_1 rfl (xc_lt_f (X := x1.toInt) (Y := 0) rfl (by decide) (by omega)) ?_
    refine xi_iload_n (pc' := 5) (x := x1) kc_117_4 rfl rfl ?_
    refine xi_iconst (pc' := 6) (v := 4) kc_117_5 rfl rfl ?_
    by_cases c10 : 4 ≤ x1.toInt
    · refine xi_cmt (pc' := 13) kc_117_6 rfl (xc_ge_t (X := x1.toInt) (Y := 4) rfl (by decide) (by omega)) ?_
      refine xi_iconst (pc' := 14) (v := 0) kc_117_13 rfl rfl ?_
      refine xi_ireturn kc_117_14 mr_117 rfl ?_
      show xw J ov (d + 7) 182 (4, [(0, .ref 0), (1, .int x1), (2, .int x2)], [.int 0], h) _
      refine xi_ift (pc' := 16) kc_182_4 rfl rfl ?_
      refine xi_aload_n (pc' := 17) (x := 0) kc_182_16 rfl rfl ?_
      refine xi_bipush (pc' := 19) (v := (-2)) kc_182_17 rfl rfl ?_
      refine xp_0 K.1 (fun u11 u12 bu11 bu12 A13 => ?_)
      refine xi_virtual (mj := 90) (as := [.int (-2)]) (st1 := []) (lv0 := [(0, .ref 0), (1, .int (-2))]) kc_182_19 rfl rfl rfl rfl rfl A13 (Nat.le_of_ble_eq_true rfl) (hJ _ _ _ _ (by decide)) (xm_le ml_90 rfl) rfl ?_
      refine xi_iload_n (pc' := 1) (x := (-2)) kc_90_0 rfl rfl ?_
      refine xi_ineg (pc' := 2) (v := 2) kc_90_1 rfl rfl ?_
      refine xi_istore_n (pc' := 3) (lv' := [(2, .int 2), (0, .ref 0), (1, .int (-2))]) kc_90_2 rfl rfl (xm_lt ml_90 rfl) ?_
      refine xi_iload_n (pc' := 4) (x := 2) kc_90_3 rfl rfl ?_
      refine xi_iff (pc' := 7) kc_90_4 rfl rfl ?_
      refine xi_iload_n (pc' := 8) (x := 2) kc_90_7 rfl rfl ?_
      refine xi_aload_n (pc' := 9) (x := 0) kc_90_8 rfl rfl ?_
      refine xi_getfield (pc' := 12) (v := .ref 94) kc_90_9 rfl rfl rfl A13 rfl ?_
      refine xcps4 (xk_arr K.1 xD_94) (fun y14 A14 hy14 ry14 => ?_)
      refine xi_arraylength (pc' := 13) (n := 7) (v := 7) kc_90_12 rfl (xl_lenI (by decide) (by decide) A14 hy14) rfl ?_
      refine xi_cmf (pc' := 16) kc_90_13 rfl rfl ?_
      refine xi_aload_n (pc' := 17) (x := 0) kc_90_16 rfl rfl ?_
      refine xi_getfield (pc' := 20) (v := .ref 94) kc_90_17 rfl rfl rfl A13 rfl ?_
      refine xi_iload_n (pc' := 21) (x := 2) kc_90_20 rfl rfl ?_
      refine xi_dup2 (pc' := 22) kc_90_21 rfl ⟨rfl, rfl⟩ ?_
      refine xcps4 (xj_get hy14 ry14 (i := 2) (by decide) (by decide)) (fun v15 ev15 bv15 dv15 => ?_)
      refine xi_iaload (pc' := 23) (v := v15) kc_90_22 rfl A14 (by decide) rfl (xi_in (by decide) (by rw [hy14]; decide)) ev15 ?_
      refine xi_iconst (pc' := 24) (v := 1) kc_90_23 rfl rfl ?_
      refine xcps2 (α := Int32) ((v15 : Int32) + 1) (fun v16 ev16 => ?_)
      have rv16 := xc_rng v16
      refine xi_iadd (pc' := 25) (v := v16) kc_90_24 rfl ev16 ?_
      refine xcps4 (xj_set (v := v16) hy14 ry14 2 (by first | omega | decide) (by first | omega | decide)) (fun y17 s17 hy17 ry17 => ?_)
      refine xi_iastore (pc' := 26) (x' := y17) kc_90_25 rfl A14 rfl (xi_in (by decide) (by rw [hy14]; decide)) s17 (fun hh17 eh17 => ?_)
      have K18 := xk_pa K (xk_wa rfl) xD_94 hy17 ry17 eh17
      refine xi_iload_n (pc' := 27) (x := (-2)) kc_90_26 rfl rfl ?_
      refine xi_ireturn kc_90_27 mr_90 rfl ?_
      show xw J ov (d + 7) 182 (22, [(0, .ref 0), (1, .int x1), (2, .int x2)], [.int (-2)], hh17) _
      refine xi_ireturn kc_182_22 mr_182 rfl ?_
      have zcm2 : ((-2) : Int32).toInt = (-2) := by decide
      exact kk (-2) hh17 K18
    · refine xi_cmf (pc' := 9) kc_117_6 rfl (xc_ge_f (X := x1.toInt) (Y := 4) rfl (by decide) (by omega)) ?_
      refine xi_iconst (pc' := 10) (v := 1) kc_117_9 rfl rfl ?_
      refine xi_goto (pc' := 14) kc_117_10 rfl ?_
      refine xi_ireturn kc_117_14 mr_117 rfl ?_
      show xw J ov (d + 7) 182 (4, [(0, .ref 0), (1, .int x1), (2, .int x2)], [.int 1], h) _
      refine xi_iff (pc' := 7) kc_182_4 rfl rfl ?_
      refine xi_iload_n (pc' := 8) (x := x2) kc_182_7 rfl rfl ?_
      by_cases c19 : x2.toInt = 0
      · refine xi_ift (pc' := 23) kc_182_8 rfl (xc_eq_t (X := x2.toInt) (Y := 0) rfl (by decide) (by omega)) ?_
        refine xi_aload_n (pc' := 24) (x := 0) kc_182_23 rfl rfl ?_
        refine xp_0 K.1 (fun u20 u21 bu20 bu21 A22 => ?_)
        refine xi_getfield (pc' := 27) (v := .ref 1) kc_182_24 rfl rfl rfl A22 rfl ?_
        refine xi_aload_n (pc' := 28) (x := 0) kc_182_27 rfl rfl ?_
        refine xi_getfield (pc' := 31) (v := .ref 66) kc_182_28 rfl rfl rfl A22 rfl ?_
        refine xp_66 K.1 (fun u24 wl23 bu24 A25 => ?_)
        refine xi_virtual (mj := 145) (as := []) (st1 := [.ref 1]) (lv0 := [(0, .ref 66)]) kc_182_31 rfl rfl rfl rfl rfl A25 (Nat.le_of_ble_eq_true rfl) (hJ _ _ _ _ (by decide)) (xm_le ml_145 rfl) rfl ?_
        refine mt_145_0 hJ hov1 hov2 (d := d)  K.1 (fun r26 hh27 br26 K28 => ?_)
        have K29 := xk_tr K K28 rfl
        refine xp_0 K29.1 (fun u30 u31 bu30 bu31 A32 => ?_)
        have e33 : u21 = u31 := xk_eqi (q := 9) K28 rfl A22 A32 rfl rfl
        subst e33
        refine xp_66 K29.1 (fun u35 wl34 bu35 A36 => ?_)
        have e37 : u24 = u35 := xk_eqi (q := 8) K28 rfl A25 A36 rfl rfl
        subst e37
        show xw J ov (d + 7) 182 (34, [(0, .ref 0), (1, .int x1), (2, .int x2)], [.int r26, .ref 1], hh27) _
        refine xi_iload_n (pc' := 35) (x := x1) kc_182_34 rfl rfl ?_
        refine xp_1 K29.1 (fun u38 u39 bu38 bu39 A40 => ?_)
        refine xi_virtual (mj := 183) (as := [.int r26, .int x1]) (st1 := []) (lv0 := [(0, .ref 1), (1, .int r26), (2, .int x1)]) kc_182_35 rfl rfl rfl rfl rfl A40 (Nat.le_of_ble_eq_true rfl) (hJ _ _ _ _ (by decide)) (xm_le ml_183 rfl) rfl ?_
        refine mt_183_0 hJ hov1 hov2 (d := d + 5) (x1 := r26) (x2 := x1) K29.1 (by first | omega | decide) (by first | omega | decide) (fun r41 hh42 br41 K43 => ?_)
        have K44 := xk_tr K29 K43 rfl
        refine xp_0 K44.1 (fun u45 u46 bu45 bu46 A47 => ?_)
        have e48 : u21 = u46 := xk_eqi (q := 9) K43 rfl A32 A47 rfl rfl
        subst e48
        refine xp_66 K44.1 (fun u50 wl49 bu50 A51 => ?_)
        have e52 : u24 = u50 := xk_eqi (q := 8) K43 rfl A36 A51 rfl rfl
        subst e52
        show xw J ov (d + 7) 182 (38, [(0, .ref 0), (1, .int x1), (2, .int x2)], [.int r41], hh42) _
        by_cases c53 : r41.toInt = 0
        · refine xi_iff (pc' := 41) kc_182_38 rfl (xc_ne_f (X := r41.toInt) (Y := 0) rfl (by decide) (by omega)) ?_
          refine xi_bipush (pc' := 43) (v := (-9)) kc_182_41 rfl rfl ?_
          refine xi_ireturn kc_182_43 mr_182 rfl ?_
          have zcm9 : ((-9) : Int32).toInt = (-9) := by decide
          exact kk (-9) hh42 K44
        · refine xi_ift (pc' := 44) kc_182_38 rfl (xc_ne_t (X := r41.toInt) (Y := 0) rfl (by decide) (by omega)) ?_
          refine xi_aload_n (pc' := 45) (x := 0) kc_182_44 rfl rfl ?_
          refine xi_getfield (pc' := 48) (v := .ref 85) kc_182_45 rfl rfl rfl A47 rfl ?_
          refine xi_iload_n (pc' := 49) (x := x1) kc_182_48 rfl rfl ?_
          refine xi_aload_n (pc' := 50) (x := 0) kc_182_49 rfl rfl ?_
          refine xi_getfield (pc' := 53) (v := .int u21) kc_182_50 rfl rfl rfl A47 rfl ?_
          refine xp_85 K44.1 (fun u54 u55 bu54 bu55 A56 => ?_)
          refine xi_virtual (mj := 184) (as := [.int x1, .int u21]) (st1 := []) (lv0 := [(0, .ref 85), (1, .int x1), (2, .int u21)]) kc_182_53 rfl rfl rfl rfl rfl A56 (Nat.le_of_ble_eq_true rfl) (hJ _ _ _ _ (by decide)) (xm_le ml_184 rfl) rfl ?_
          refine xi_iload_n (pc' := 1) (x := x1) kc_184_0 rfl rfl ?_
          refine xi_static (mj := 117) (as := [.int x1]) (st1 := []) (lv0 := [(0, .int x1)]) kc_184_1 rfl rfl (Nat.le_of_ble_eq_true rfl) rfl rfl (Nat.le_of_ble_eq_true rfl) (hJ _ _ _ _ (by decide)) (xm_le ml_117 rfl) rfl ?_
          refine xi_iload_n (pc' := 1) (x := x1) kc_117_0 rfl rfl ?_
          refine xi_iff (pc' := 4) kc_117_1 rfl (xc_lt_f (X := x1.toInt) (Y := 0) rfl (by decide) (by omega)) ?_
          refine xi_iload_n (pc' := 5) (x := x1) kc_117_4 rfl rfl ?_
          refine xi_iconst (pc' := 6) (v := 4) kc_117_5 rfl rfl ?_
          refine xi_cmf (pc' := 9) kc_117_6 rfl (xc_ge_f (X := x1.toInt) (Y := 4) rfl (by decide) (by omega)) ?_
          refine xi_iconst (pc' := 10) (v := 1) kc_117_9 rfl rfl ?_
          refine xi_goto (pc' := 14) kc_117_10 rfl ?_
          refine xi_ireturn kc_117_14 mr_117 rfl ?_
          show xw J ov (d + 6) 184 (4, [(0, .ref 85), (1, .int x1), (2, .int u21)], [.int 1], hh42) _
          refine xi_iff (pc' := 7) kc_184_4 rfl rfl ?_
          refine xi_aload_n (pc' := 8) (x := 85) kc_184_7 rfl rfl ?_
          refine xi_getfield (pc' := 11) (v := .ref 92) kc_184_8 rfl rfl rfl A56 rfl ?_
          refine xi_iload_n (pc' := 12) (x := x1) kc_184_11 rfl rfl ?_
          refine xcps4 (xk_arr K44.1 xD_92) (fun y57 A57 hy57 ry57 => ?_)
          refine xcps4 (xj_get hy57 ry57 (i := x1) (by omega) (by omega)) (fun v58 ev58 bv58 dv58 => ?_)
          refine xi_iaload (pc' := 13) (v := v58) kc_184_12 rfl A57 (by decide) rfl (xi_in (by omega) (by rw [hy57]; omega)) ev58 ?_
          refine xi_bipush (pc' := 15) (v := (-9)) kc_184_13 rfl rfl ?_
          by_cases c59 : v58.toInt = (-9)
          · refine xi_cmt (pc' := 22) kc_184_15 rfl (xc_eq_t (X := v58.toInt) (Y := (-9)) rfl (by decide) (by omega)) ?_
            refine xi_iconst (pc' := 23) (v := 0) kc_184_22 rfl rfl ?_
            refine xi_istore_n (pc' := 24) (lv' := [(3, .int 0), (0, .ref 85), (1, .int x1), (2, .int u21)]) kc_184_23 rfl rfl (xm_lt ml_184 rfl) ?_
            refine xi_iload_n (pc' := 25) (x := 0) kc_184_24 rfl rfl ?_
            refine xi_ift (pc' := 37) kc_184_25 rfl rfl ?_
            refine xi_iload_n (pc' := 38) (x := u21) kc_184_37 rfl rfl ?_
            refine xi_bipush (pc' := 40) (v := 24) kc_184_38 rfl rfl ?_
            refine xcps2 (α := Int32) (u21 / 24) (fun v60 ev60 => ?_)
            have dv60 : v60.toInt = u21.toInt / 24 := by rw [← ev60]; exact xz_dive (X := u21.toInt) (Y := 24) rfl (by decide) (by omega) (by decide)
            have bv60 : 0 ≤ v60.toInt ∧ v60.toInt ≤ 25 := by omega
            refine xi_idiv (pc' := 41) (v := v60) kc_184_40 rfl ev60 (by decide) ?_
            refine xi_ireturn kc_184_41 mr_184 rfl ?_
            show xw J ov (d + 7) 182 (56, [(0, .ref 0), (1, .int x1), (2, .int x2)], [.int v60], hh42) _
            refine xi_istore_n (pc' := 57) (lv' := [(3, .int v60), (0, .ref 0), (1, .int x1), (2, .int x2)]) kc_182_56 rfl rfl (xm_lt ml_182 rfl) ?_
            refine xi_aload_n (pc' := 58) (x := 0) kc_182_57 rfl rfl ?_
            refine xi_getfield (pc' := 61) (v := .ref 85) kc_182_58 rfl rfl rfl A47 rfl ?_
            refine xi_iload_n (pc' := 62) (x := x1) kc_182_61 rfl rfl ?_
            refine xi_iload_n (pc' := 63) (x := v60) kc_182_62 rfl rfl ?_
            refine xi_virtual (mj := 185) (as := [.int x1, .int v60]) (st1 := []) (lv0 := [(0, .ref 85), (1, .int x1), (2, .int v60)]) kc_182_63 rfl rfl rfl rfl rfl A56 (Nat.le_of_ble_eq_true rfl) (hJ _ _ _ _ (by decide)) (xm_le ml_185 rfl) rfl ?_
            refine mt_185_0 hJ hov1 hov2 (d := d + 5) (x1 := x1) (x2 := v60) K44.1 (by first | omega | decide) (by first | omega | decide) (fun r61 hh62 br61 K63 => ?_)
            have K64 := xk_tr K44 K63 rfl
            refine xp_0 K64.1 (fun u65 u66 bu65 bu66 A67 => ?_)
            have e68 : u21 = u66 := xk_eqi (q := 9) K63 rfl A47 A67 rfl rfl
            subst e68
            refine xp_66 K64.1 (fun u70 wl69 bu70 A71 => ?_)
            have e72 : u24 = u70 := xk_eqi (q := 8) K63 rfl A51 A71 rfl rfl
            subst e72
            show xw J ov (d + 7) 182 (66, [(3, .int v60), (0, .ref 0), (1, .int x1), (2, .int x2)], [.int r61], hh62) _
            refine xi_istore (pc' := 68) (lv' := [(4, .int r61), (3, .int v60), (0, .ref 0), (1, .int x1), (2, .int x2)]) kc_182_66 rfl rfl (xm_lt ml_182 rfl) ?_
            refine xi_iload (pc' := 70) (x := r61) kc_182_68 rfl rfl ?_
            refine xi_bipush (pc' := 72) (v := (-9)) kc_182_70 rfl rfl ?_
            by_cases c73 : r61.toInt = (-9)
            · refine xi_cmf (pc' := 75) kc_182_72 rfl (xc_ne_f (X := r61.toInt) (Y := (-9)) rfl (by decide) (by omega)) ?_
              refine xi_bipush (pc' := 77) (v := (-9)) kc_182_75 rfl rfl ?_
              refine xi_ireturn kc_182_77 mr_182 rfl ?_
              have zcm9 : ((-9) : Int32).toInt = (-9) := by decide
              exact kk (-9) hh62 K64
            · refine xi_cmt (pc' := 78) kc_182_72 rfl (xc_ne_t (X := r61.toInt) (Y := (-9)) rfl (by decide) (by omega)) ?_
              refine xi_iload_n (pc' := 79) (x := x2) kc_182_78 rfl rfl ?_
              refine xi_iff (pc' := 82) kc_182_79 rfl (xc_ne_f (X := x2.toInt) (Y := 0) rfl (by decide) (by omega)) ?_
              refine xi_iload_n (pc' := 83) (x := v60) kc_182_82 rfl rfl ?_
              refine xi_aload_n (pc' := 84) (x := 0) kc_182_83 rfl rfl ?_
              refine xi_getfield (pc' := 87) (v := .ref 85) kc_182_84 rfl rfl rfl A67 rfl ?_
              refine xi_iload (pc' := 89) (x := r61) kc_182_87 rfl rfl ?_
              refine xp_85 K64.1 (fun u74 u75 bu74 bu75 A76 => ?_)
              refine xi_virtual (mj := 186) (as := [.int r61]) (st1 := [.int v60]) (lv0 := [(0, .ref 85), (1, .int r61)]) kc_182_89 rfl rfl rfl rfl rfl A76 (Nat.le_of_ble_eq_true rfl) (hJ _ _ _ _ (by decide)) (xm_le ml_186 rfl) rfl ?_
              refine xi_iload_n (pc' := 1) (x := r61) kc_186_0 rfl rfl ?_
              by_cases c77 : r61.toInt < 0
              · refine xi_ift (pc' := 10) kc_186_1 rfl (xc_lt_t (X := r61.toInt) (Y := 0) rfl (by decide) (by omega)) ?_
                refine xi_iconst (pc' := 11) (v := 0) kc_186_10 rfl rfl ?_
                refine xi_ireturn kc_186_11 mr_186 rfl ?_
                show xw J ov (d + 7) 182 (92, [(4, .int r61), (3, .int v60), (0, .ref 0), (1, .int x1), (2, .int x2)], [.int 0, .int v60], hh62) _
                refine xcps2 (α := Int32) (v60 + 0) (fun v78 ev78 => ?_)
                have zv78 : v78.toInt = v60.toInt := by rw [← ev78]; exact (xz_add (X := v60.toInt) (Y := 0) rfl (by decide) (by omega) (by omega)).trans (by omega)
                refine xi_iadd (pc' := 93) (v := v78) kc_182_92 rfl ev78 ?_
                refine xi_goto (pc' := 105) kc_182_93 rfl ?_
                refine xi_ireturn kc_182_105 mr_182 rfl ?_
                exact kk v78 hh62 K64
              · refine xi_iff (pc' := 4) kc_186_1 rfl (xc_lt_f (X := r61.toInt) (Y := 0) rfl (by decide) (by omega)) ?_
                refine xi_iload_n (pc' := 5) (x := r61) kc_186_4 rfl rfl ?_
                refine xi_bipush (pc' := 7) (v := 12) kc_186_5 rfl rfl ?_
                refine xi_cmt (pc' := 12) kc_186_7 rfl (xc_lt_t (X := r61.toInt) (Y := 12) rfl (by decide) (by omega)) ?_
                refine xi_aload_n (pc' := 13) (x := 85) kc_186_12 rfl rfl ?_
                refine xi_getfield (pc' := 16) (v := .int u74) kc_186_13 rfl rfl rfl A76 rfl ?_
                by_cases c79 : u74.toInt = 0
                · refine xi_ift (pc' := 32) kc_186_16 rfl (xc_eq_t (X := u74.toInt) (Y := 0) rfl (by decide) (by omega)) ?_
                  refine xi_aload_n (pc' := 33) (x := 85) kc_186_32 rfl rfl ?_
                  refine xi_getfield (pc' := 36) (v := .ref 89) kc_186_33 rfl rfl rfl A76 rfl ?_
                  refine xi_iload_n (pc' := 37) (x := r61) kc_186_36 rfl rfl ?_
                  refine xcps4 (xk_arr K64.1 xD_89) (fun y80 A80 hy80 ry80 => ?_)
                  refine xcps4 (xj_get hy80 ry80 (i := r61) (by omega) (by omega)) (fun v81 ev81 bv81 dv81 => ?_)
                  refine xi_iaload (pc' := 38) (v := v81) kc_186_37 rfl A80 (by decide) rfl (xi_in (by omega) (by rw [hy80]; omega)) ev81 ?_
                  refine xi_ireturn kc_186_38 mr_186 rfl ?_
                  show xw J ov (d + 7) 182 (92, [(4, .int r61), (3, .int v60), (0, .ref 0), (1, .int x1), (2, .int x2)], [.int v81, .int v60], hh62) _
                  refine xcps2 (α := Int32) ((v60 : Int32) + v81) (fun v82 ev82 => ?_)
                  have rv82 := xc_rng v82
                  refine xi_iadd (pc' := 93) (v := v82) kc_182_92 rfl ev82 ?_
                  refine xi_goto (pc' := 105) kc_182_93 rfl ?_
                  refine xi_ireturn kc_182_105 mr_182 rfl ?_
                  exact kk v82 hh62 K64
                · refine xi_iff (pc' := 19) kc_186_16 rfl (xc_eq_f (X := u74.toInt) (Y := 0) rfl (by decide) (by omega)) ?_
                  refine xi_aload_n (pc' := 20) (x := 85) kc_186_19 rfl rfl ?_
                  refine xi_getfield (pc' := 23) (v := .ref 89) kc_186_20 rfl rfl rfl A76 rfl ?_
                  refine xi_iload_n (pc' := 24) (x := r61) kc_186_23 rfl rfl ?_
                  refine xcps4 (xk_arr K64.1 xD_89) (fun y83 A83 hy83 ry83 => ?_)
                  refine xcps4 (xj_get hy83 ry83 (i := r61) (by omega) (by omega)) (fun v84 ev84 bv84 dv84 => ?_)
                  refine xi_iaload (pc' := 25) (v := v84) kc_186_24 rfl A83 (by decide) rfl (xi_in (by omega) (by rw [hy83]; omega)) ev84 ?_
                  refine xi_iconst (pc' := 26) (v := 1) kc_186_25 rfl rfl ?_
                  refine xcps2 (α := Int32) ((v84 : Int32) + 1) (fun v85 ev85 => ?_)
                  have rv85 := xc_rng v85
                  refine xi_iadd (pc' := 27) (v := v85) kc_186_26 rfl ev85 ?_
                  refine xi_iconst (pc' := 28) (v := 2) kc_186_27 rfl rfl ?_
                  refine xcps2 (α := Int32) (v85 / 2) (fun v86 ev86 => ?_)
                  have dv86 : 2 * v86.toInt ≤ v85.toInt + 1 ∧ v85.toInt ≤ 2 * v86.toInt + 1 := by rw [← ev86]; exact xz_div (X := v85.toInt) (Y := 2) rfl (by decide) (by decide)
                  have bv86 : -1073741825 ≤ v86.toInt ∧ v86.toInt ≤ 1073741824 := by omega
                  refine xi_idiv (pc' := 29) (v := v86) kc_186_28 rfl ev86 (by decide) ?_
                  refine xi_goto (pc' := 38) kc_186_29 rfl ?_
                  refine xi_ireturn kc_186_38 mr_186 rfl ?_
                  show xw J ov (d + 7) 182 (92, [(4, .int r61), (3, .int v60), (0, .ref 0), (1, .int x1), (2, .int x2)], [.int v86, .int v60], hh62) _
                  refine xcps2 (α := Int32) (v60 + v86) (fun v87 ev87 => ?_)
                  have zv87 : v87.toInt = (v60.toInt + v86.toInt) := by rw [← ev87]; exact (xz_add (X := v60.toInt) (Y := v86.toInt) rfl rfl (by omega) (by omega)).trans (by omega)
                  refine xi_iadd (pc' := 93) (v := v87) kc_182_92 rfl ev87 ?_
                  refine xi_goto (pc' := 105) kc_182_93 rfl ?_
                  refine xi_ireturn kc_182_105 mr_182 rfl ?_
                  exact kk v87 hh62 K64
          · refine xi_cmf (pc' := 18) kc_184_15 rfl (xc_eq_f (X := v58.toInt) (Y := (-9)) rfl (by decide) (by omega)) ?_
            refine xi_iconst (pc' := 19) (v := 1) kc_184_18 rfl rfl ?_
            refine xi_goto (pc' := 23) kc_184_19 rfl ?_
            refine xi_istore_n (pc' := 24) (lv' := [(3, .int 1), (0, .ref 85), (1, .int x1), (2, .int u21)]) kc_184_23 rfl rfl (xm_lt ml_184 rfl) ?_
            refine xi_iload_n (pc' := 25) (x := 1) kc_184_24 rfl rfl ?_
            refine xi_iff (pc' := 28) kc_184_25 rfl rfl ?_
            refine xi_aload_n (pc' := 29) (x := 85) kc_184_28 rfl rfl ?_
            refine xi_getfield (pc' := 32) (v := .ref 92) kc_184_29 rfl rfl rfl A56 rfl ?_
            refine xi_iload_n (pc' := 33) (x := x1) kc_184_32 rfl rfl ?_
            refine xi_iaload (pc' := 34) (v := v58) kc_184_33 rfl A57 (by decide) rfl (xi_in (by omega) (by rw [hy57]; omega)) ev58 ?_
            refine xi_goto (pc' := 38) kc_184_34 rfl ?_
            refine xi_bipush (pc' := 40) (v := 24) kc_184_38 rfl rfl ?_
            refine xcps2 (α := Int32) (v58 / 24) (fun v88 ev88 => ?_)
            have dv88 : 24 * v88.toInt ≤ v58.toInt + 23 ∧ v58.toInt ≤ 24 * v88.toInt + 23 := by rw [← ev88]; exact xz_div (X := v58.toInt) (Y := 24) rfl (by decide) (by decide)
            have bv88 : -89478486 ≤ v88.toInt ∧ v88.toInt ≤ 89478486 := by omega
            refine xi_idiv (pc' := 41) (v := v88) kc_184_40 rfl ev88 (by decide) ?_
            refine xi_ireturn kc_184_41 mr_184 rfl ?_
            show xw J ov (d + 7) 182 (56, [(0, .ref 0), (1, .int x1), (2, .int x2)], [.int v88], hh42) _
            refine xi_istore_n (pc' := 57) (lv' := [(3, .int v88), (0, .ref 0), (1, .int x1), (2, .int x2)]) kc_182_56 rfl rfl (xm_lt ml_182 rfl) ?_
            refine xi_aload_n (pc' := 58) (x := 0) kc_182_57 rfl rfl ?_
            refine xi_getfield (pc' := 61) (v := .ref 85) kc_182_58 rfl rfl rfl A47 rfl ?_
            refine xi_iload_n (pc' := 62) (x := x1) kc_182_61 rfl rfl ?_
            refine xi_iload_n (pc' := 63) (x := v88) kc_182_62 rfl rfl ?_
            refine xi_virtual (mj := 185) (as := [.int x1, .int v88]) (st1 := []) (lv0 := [(0, .ref 85), (1, .int x1), (2, .int v88)]) kc_182_63 rfl rfl rfl rfl rfl A56 (Nat.le_of_ble_eq_true rfl) (hJ _ _ _ _ (by decide)) (xm_le ml_185 rfl) rfl ?_
            refine mt_185_0 hJ hov1 hov2 (d := d + 5) (x1 := x1) (x2 := v88) K44.1 (by first | omega | decide) (by first | omega | decide) (fun r89 hh90 br89 K91 => ?_)
            have K92 := xk_tr K44 K91 rfl
            refine xp_0 K92.1 (fun u93 u94 bu93 bu94 A95 => ?_)
            have e96 : u21 = u94 := xk_eqi (q := 9) K91 rfl A47 A95 rfl rfl
            subst e96
            refine xp_66 K92.1 (fun u98 wl97 bu98 A99 => ?_)
            have e100 : u24 = u98 := xk_eqi (q := 8) K91 rfl A51 A99 rfl rfl
            subst e100
            show xw J ov (d + 7) 182 (66, [(3, .int v88), (0, .ref 0), (1, .int x1), (2, .int x2)], [.int r89], hh90) _
            refine xi_istore (pc' := 68) (lv' := [(4, .int r89), (3, .int v88), (0, .ref 0), (1, .int x1), (2, .int x2)]) kc_182_66 rfl rfl (xm_lt ml_182 rfl) ?_
            refine xi_iload (pc' := 70) (x := r89) kc_182_68 rfl rfl ?_
            refine xi_bipush (pc' := 72) (v := (-9)) kc_182_70 rfl rfl ?_
            by_cases c101 : r89.toInt = (-9)
            · refine xi_cmf (pc' := 75) kc_182_72 rfl (xc_ne_f (X := r89.toInt) (Y := (-9)) rfl (by decide) (by omega)) ?_
              refine xi_bipush (pc' := 77) (v := (-9)) kc_182_75 rfl rfl ?_
              refine xi_ireturn kc_182_77 mr_182 rfl ?_
              have zcm9 : ((-9) : Int32).toInt = (-9) := by decide
              exact kk (-9) hh90 K92
            · refine xi_cmt (pc' := 78) kc_182_72 rfl (xc_ne_t (X := r89.toInt) (Y := (-9)) rfl (by decide) (by omega)) ?_
              refine xi_iload_n (pc' := 79) (x := x2) kc_182_78 rfl rfl ?_
              refine xi_iff (pc' := 82) kc_182_79 rfl (xc_ne_f (X := x2.toInt) (Y := 0) rfl (by decide) (by omega)) ?_
              refine xi_iload_n (pc' := 83) (x := v88) kc_182_82 rfl rfl ?_
              refine xi_aload_n (pc' := 84) (x := 0) kc_182_83 rfl rfl ?_
              refine xi_getfield (pc' := 87) (v := .ref 85) kc_182_84 rfl rfl rfl A95 rfl ?_
              refine xi_iload (pc' := 89) (x := r89) kc_182_87 rfl rfl ?_
              refine xp_85 K92.1 (fun u102 u103 bu102 bu103 A104 => ?_)
              refine xi_virtual (mj := 186) (as := [.int r89]) (st1 := [.int v88]) (lv0 := [(0, .ref 85), (1, .int r89)]) kc_182_89 rfl rfl rfl rfl rfl A104 (Nat.le_of_ble_eq_true rfl) (hJ _ _ _ _ (by decide)) (xm_le ml_186 rfl) rfl ?_
              refine xi_iload_n (pc' := 1) (x := r89) kc_186_0 rfl rfl ?_
              by_cases c105 : r89.toInt < 0
              · refine xi_ift (pc' := 10) kc_186_1 rfl (xc_lt_t (X := r89.toInt) (Y := 0) rfl (by decide) (by omega)) ?_
                refine xi_iconst (pc' := 11) (v := 0) kc_186_10 rfl rfl ?_
                refine xi_ireturn kc_186_11 mr_186 rfl ?_
                show xw J ov (d + 7) 182 (92, [(4, .int r89), (3, .int v88), (0, .ref 0), (1, .int x1), (2, .int x2)], [.int 0, .int v88], hh90) _
                refine xcps2 (α := Int32) (v88 + 0) (fun v106 ev106 => ?_)
                have zv106 : v106.toInt = v88.toInt := by rw [← ev106]; exact (xz_add (X := v88.toInt) (Y := 0) rfl (by decide) (by omega) (by omega)).trans (by omega)
                refine xi_iadd (pc' := 93) (v := v106) kc_182_92 rfl ev106 ?_
                refine xi_goto (pc' := 105) kc_182_93 rfl ?_
                refine xi_ireturn kc_182_105 mr_182 rfl ?_
                exact kk v106 hh90 K92
              · refine xi_iff (pc' := 4) kc_186_1 rfl (xc_lt_f (X := r89.toInt) (Y := 0) rfl (by decide) (by omega)) ?_
                refine xi_iload_n (pc' := 5) (x := r89) kc_186_4 rfl rfl ?_
                refine xi_bipush (pc' := 7) (v := 12) kc_186_5 rfl rfl ?_
                refine xi_cmt (pc' := 12) kc_186_7 rfl (xc_lt_t (X := r89.toInt) (Y := 12) rfl (by decide) (by omega)) ?_
                refine xi_aload_n (pc' := 13) (x := 85) kc_186_12 rfl rfl ?_
                refine xi_getfield (pc' := 16) (v := .int u102) kc_186_13 rfl rfl rfl A104 rfl ?_
                by_cases c107 : u102.toInt = 0
                · refine xi_ift (pc' := 32) kc_186_16 rfl (xc_eq_t (X := u102.toInt) (Y := 0) rfl (by decide) (by omega)) ?_
                  refine xi_aload_n (pc' := 33) (x := 85) kc_186_32 rfl rfl ?_
                  refine xi_getfield (pc' := 36) (v := .ref 89) kc_186_33 rfl rfl rfl A104 rfl ?_
                  refine xi_iload_n (pc' := 37) (x := r89) kc_186_36 rfl rfl ?_
                  refine xcps4 (xk_arr K92.1 xD_89) (fun y108 A108 hy108 ry108 => ?_)
                  refine xcps4 (xj_get hy108 ry108 (i := r89) (by omega) (by omega)) (fun v109 ev109 bv109 dv109 => ?_)
                  refine xi_iaload (pc' := 38) (v := v109) kc_186_37 rfl A108 (by decide) rfl (xi_in (by omega) (by rw [hy108]; omega)) ev109 ?_
                  refine xi_ireturn kc_186_38 mr_186 rfl ?_
                  show xw J ov (d + 7) 182 (92, [(4, .int r89), (3, .int v88), (0, .ref 0), (1, .int x1), (2, .int x2)], [.int v109, .int v88], hh90) _
                  refine xcps2 (α := Int32) ((v88 : Int32) + v109) (fun v110 ev110 => ?_)
                  have rv110 := xc_rng v110
                  refine xi_iadd (pc' := 93) (v := v110) kc_182_92 rfl ev110 ?_
                  refine xi_goto (pc' := 105) kc_182_93 rfl ?_
                  refine xi_ireturn kc_182_105 mr_182 rfl ?_
                  exact kk v110 hh90 K92
                · refine xi_iff (pc' := 19) kc_186_16 rfl (xc_eq_f (X := u102.toInt) (Y := 0) rfl (by decide) (by omega)) ?_
                  refine xi_aload_n (pc' := 20) (x := 85) kc_186_19 rfl rfl ?_
                  refine xi_getfield (pc' := 23) (v := .ref 89) kc_186_20 rfl rfl rfl A104 rfl ?_
                  refine xi_iload_n (pc' := 24) (x := r89) kc_186_23 rfl rfl ?_
                  refine xcps4 (xk_arr K92.1 xD_89) (fun y111 A111 hy111 ry111 => ?_)
                  refine xcps4 (xj_get hy111 ry111 (i := r89) (by omega) (by omega)) (fun v112 ev112 bv112 dv112 => ?_)
                  refine xi_iaload (pc' := 25) (v := v112) kc_186_24 rfl A111 (by decide) rfl (xi_in (by omega) (by rw [hy111]; omega)) ev112 ?_
                  refine xi_iconst (pc' := 26) (v := 1) kc_186_25 rfl rfl ?_
                  refine xcps2 (α := Int32) ((v112 : Int32) + 1) (fun v113 ev113 => ?_)
                  have rv113 := xc_rng v113
                  refine xi_iadd (pc' := 27) (v := v113) kc_186_26 rfl ev113 ?_
                  refine xi_iconst (pc' := 28) (v := 2) kc_186_27 rfl rfl ?_
                  refine xcps2 (α := Int32) (v113 / 2) (fun v114 ev114 => ?_)
                  have dv114 : 2 * v114.toInt ≤ v113.toInt + 1 ∧ v113.toInt ≤ 2 * v114.toInt + 1 := by rw [← ev114]; exact xz_div (X := v113.toInt) (Y := 2) rfl (by decide) (by decide)
                  have bv114 : -1073741825 ≤ v114.toInt ∧ v114.toInt ≤ 1073741824 := by omega
                  refine xi_idiv (pc' := 29) (v := v114) kc_186_28 rfl ev114 (by decide) ?_
                  refine xi_goto (pc' := 38) kc_186_29 rfl ?_
                  refine xi_ireturn kc_186_38 mr_186 rfl ?_
                  show xw J ov (d + 7) 182 (92, [(4, .int r89), (3, .int v88), (0, .ref 0), (1, .int x1), (2, .int x2)], [.int v114, .int v88], hh90) _
                  refine xcps2 (α := Int32) (v88 + v114) (fun v115 ev115 => ?_)
                  have zv115 : v115.toInt = (v88.toInt + v114.toInt) := by rw [← ev115]; exact (xz_add (X := v88.toInt) (Y := v114.toInt) rfl rfl (by omega) (by omega)).trans (by omega)
                  refine xi_iadd (pc' := 93) (v := v115) kc_182_92 rfl ev115 ?_
                  refine xi_goto (pc' := 105) kc_182_93 rfl ?_
                  refine xi_ireturn kc_182_105 mr_182 rfl ?_
                  exact kk v115 hh90 K92
      · refine xi_iff (pc' := 11) kc_182_8 rfl (xc_eq_f (X := x2.toInt) (Y := 0) rfl (by decide) (by omega)) ?_
        refine xi_iload_n (pc' := 12) (x := x2) kc_182_11 rfl rfl ?_
        refine xi_iconst (pc' := 13) (v := 1) kc_182_12 rfl rfl ?_
        by_cases c116 : x2.toInt = 1
        · refine xi_cmt (pc' := 23) kc_182_13 rfl (xc_eq_t (X := x2.toInt) (Y := 1) rfl (by decide) (by omega)) ?_
          refine xi_aload_n (pc' := 24) (x := 0) kc_182_23 rfl rfl ?_
          refine xp_0 K.1 (fun u117 u118 bu117 bu118 A119 => ?_)
          refine xi_getfield (pc' := 27) (v := .ref 1) kc_182_24 rfl rfl rfl A119 rfl ?_
          refine xi_aload_n (pc' := 28) (x := 0) kc_182_27 rfl rfl ?_
          refine xi_getfield (pc' := 31) (v := .ref 66) kc_182_28 rfl rfl rfl A119 rfl ?_
          refine xp_66 K.1 (fun u121 wl120 bu121 A122 => ?_)
          refine xi_virtual (mj := 145) (as := []) (st1 := [.ref 1]) (lv0 := [(0, .ref 66)]) kc_182_31 rfl rfl rfl rfl rfl A122 (Nat.le_of_ble_eq_true rfl) (hJ _ _ _ _ (by decide)) (xm_le ml_145 rfl) rfl ?_
          refine mt_145_0 hJ hov1 hov2 (d := d)  K.1 (fun r123 hh124 br123 K125 => ?_)
          have K126 := xk_tr K K125 rfl
          refine xp_0 K126.1 (fun u127 u128 bu127 bu128 A129 => ?_)
          have e130 : u118 = u128 := xk_eqi (q := 9) K125 rfl A119 A129 rfl rfl
          subst e130
          refine xp_66 K126.1 (fun u132 wl131 bu132 A133 => ?_)
          have e134 : u121 = u132 := xk_eqi (q := 8) K125 rfl A122 A133 rfl rfl
          subst e134
          show xw J ov (d + 7) 182 (34, [(0, .ref 0), (1, .int x1), (2, .int x2)], [.int r123, .ref 1], hh124) _
          refine xi_iload_n (pc' := 35) (x := x1) kc_182_34 rfl rfl ?_
          refine xp_1 K126.1 (fun u135 u136 bu135 bu136 A137 => ?_)
          refine xi_virtual (mj := 183) (as := [.int r123, .int x1]) (st1 := []) (lv0 := [(0, .ref 1), (1, .int r123), (2, .int x1)]) kc_182_35 rfl rfl rfl rfl rfl A137 (Nat.le_of_ble_eq_true rfl) (hJ _ _ _ _ (by decide)) (xm_le ml_183 rfl) rfl ?_
          refine mt_183_0 hJ hov1 hov2 (d := d + 5) (x1 := r123) (x2 := x1) K126.1 (by first | omega | decide) (by first | omega | decide) (fun r138 hh139 br138 K140 => ?_)
          have K141 := xk_tr K126 K140 rfl
          refine xp_0 K141.1 (fun u142 u143 bu142 bu143 A144 => ?_)
          have e145 : u118 = u143 := xk_eqi (q := 9) K140 rfl A129 A144 rfl rfl
          subst e145
          refine xp_66 K141.1 (fun u147 wl146 bu147 A148 => ?_)
          have e149 : u121 = u147 := xk_eqi (q := 8) K140 rfl A133 A148 rfl rfl
          subst e149
          show xw J ov (d + 7) 182 (38, [(0, .ref 0), (1, .int x1), (2, .int x2)], [.int r138], hh139) _
          by_cases c150 : r138.toInt = 0
          · refine xi_iff (pc' := 41) kc_182_38 rfl (xc_ne_f (X := r138.toInt) (Y := 0) rfl (by decide) (by omega)) ?_
            refine xi_bipush (pc' := 43) (v := (-9)) kc_182_41 rfl rfl ?_
            refine xi_ireturn kc_182_43 mr_182 rfl ?_
            have zcm9 : ((-9) : Int32).toInt = (-9) := by decide
            exact kk (-9) hh139 K141
          · refine xi_ift (pc' := 44) kc_182_38 rfl (xc_ne_t (X := r138.toInt) (Y := 0) rfl (by decide) (by omega)) ?_
            refine xi_aload_n (pc' := 45) (x := 0) kc_182_44 rfl rfl ?_
            refine xi_getfield (pc' := 48) (v := .ref 85) kc_182_45 rfl rfl rfl A144 rfl ?_
            refine xi_iload_n (pc' := 49) (x := x1) kc_182_48 rfl rfl ?_
            refine xi_aload_n (pc' := 50) (x := 0) kc_182_49 rfl rfl ?_
            refine xi_getfield (pc' := 53) (v := .int u118) kc_182_50 rfl rfl rfl A144 rfl ?_
            refine xp_85 K141.1 (fun u151 u152 bu151 bu152 A153 => ?_)
            refine xi_virtual (mj := 184) (as := [.int x1, .int u118]) (st1 := []) (lv0 := [(0, .ref 85), (1, .int x1), (2, .int u118)]) kc_182_53 rfl rfl rfl rfl rfl A153 (Nat.le_of_ble_eq_true rfl) (hJ _ _ _ _ (by decide)) (xm_le ml_184 rfl) rfl ?_
            refine xi_iload_n (pc' := 1) (x := x1) kc_184_0 rfl rfl ?_
            refine xi_static (mj := 117) (as := [.int x1]) (st1 := []) (lv0 := [(0, .int x1)]) kc_184_1 rfl rfl (Nat.le_of_ble_eq_true rfl) rfl rfl (Nat.le_of_ble_eq_true rfl) (hJ _ _ _ _ (by decide)) (xm_le ml_117 rfl) rfl ?_
            refine xi_iload_n (pc' := 1) (x := x1) kc_117_0 rfl rfl ?_
            refine xi_iff (pc' := 4) kc_117_1 rfl (xc_lt_f (X := x1.toInt) (Y := 0) rfl (by decide) (by omega)) ?_
            refine xi_iload_n (pc' := 5) (x := x1) kc_117_4 rfl rfl ?_
            refine xi_iconst (pc' := 6) (v := 4) kc_117_5 rfl rfl ?_
            refine xi_cmf (pc' := 9) kc_117_6 rfl (xc_ge_f (X := x1.toInt) (Y := 4) rfl (by decide) (by omega)) ?_
            refine xi_iconst (pc' := 10) (v := 1) kc_117_9 rfl rfl ?_
            refine xi_goto (pc' := 14) kc_117_10 rfl ?_
            refine xi_ireturn kc_117_14 mr_117 rfl ?_
            show xw J ov (d + 6) 184 (4, [(0, .ref 85), (1, .int x1), (2, .int u118)], [.int 1], hh139) _
            refine xi_iff (pc' := 7) kc_184_4 rfl rfl ?_
            refine xi_aload_n (pc' := 8) (x := 85) kc_184_7 rfl rfl ?_
            refine xi_getfield (pc' := 11) (v := .ref 92) kc_184_8 rfl rfl rfl A153 rfl ?_
            refine xi_iload_n (pc' := 12) (x := x1) kc_184_11 rfl rfl ?_
            refine xcps4 (xk_arr K141.1 xD_92) (fun y154 A154 hy154 ry154 => ?_)
            refine xcps4 (xj_get hy154 ry154 (i := x1) (by omega) (by omega)) (fun v155 ev155 bv155 dv155 => ?_)
            refine xi_iaload (pc' := 13) (v := v155) kc_184_12 rfl A154 (by decide) rfl (xi_in (by omega) (by rw [hy154]; omega)) ev155 ?_
            refine xi_bipush (pc' := 15) (v := (-9)) kc_184_13 rfl rfl ?_
            by_cases c156 : v155.toInt = (-9)
            · refine xi_cmt (pc' := 22) kc_184_15 rfl (xc_eq_t (X := v155.toInt) (Y := (-9)) rfl (by decide) (by omega)) ?_
              refine xi_iconst (pc' := 23) (v := 0) kc_184_22 rfl rfl ?_
              refine xi_istore_n (pc' := 24) (lv' := [(3, .int 0), (0, .ref 85), (1, .int x1), (2, .int u118)]) kc_184_23 rfl rfl (xm_lt ml_184 rfl) ?_
              refine xi_iload_n (pc' := 25) (x := 0) kc_184_24 rfl rfl ?_
              refine xi_ift (pc' := 37) kc_184_25 rfl rfl ?_
              refine xi_iload_n (pc' := 38) (x := u118) kc_184_37 rfl rfl ?_
              refine xi_bipush (pc' := 40) (v := 24) kc_184_38 rfl rfl ?_
              refine xcps2 (α := Int32) (u118 / 24) (fun v157 ev157 => ?_)
              have dv157 : v157.toInt = u118.toInt / 24 := by rw [← ev157]; exact xz_dive (X := u118.toInt) (Y := 24) rfl (by decide) (by omega) (by decide)
              have bv157 : 0 ≤ v157.toInt ∧ v157.toInt ≤ 25 := by omega
              refine xi_idiv (pc' := 41) (v := v157) kc_184_40 rfl ev157 (by decide) ?_
              refine xi_ireturn kc_184_41 mr_184 rfl ?_
              show xw J ov (d + 7) 182 (56, [(0, .ref 0), (1, .int x1), (2, .int x2)], [.int v157], hh139) _
              refine xi_istore_n (pc' := 57) (lv' := [(3, .int v157), (0, .ref 0), (1, .int x1), (2, .int x2)]) kc_182_56 rfl rfl (xm_lt ml_182 rfl) ?_
              refine xi_aload_n (pc' := 58) (x := 0) kc_182_57 rfl rfl ?_
              refine xi_getfield (pc' := 61) (v := .ref 85) kc_182_58 rfl rfl rfl A144 rfl ?_
              refine xi_iload_n (pc' := 62) (x := x1) kc_182_61 rfl rfl ?_
              refine xi_iload_n (pc' := 63) (x := v157) kc_182_62 rfl rfl ?_
              refine xi_virtual (mj := 185) (as := [.int x1, .int v157]) (st1 := []) (lv0 := [(0, .ref 85), (1, .int x1), (2, .int v157)]) kc_182_63 rfl rfl rfl rfl rfl A153 (Nat.le_of_ble_eq_true rfl) (hJ _ _ _ _ (by decide)) (xm_le ml_185 rfl) rfl ?_
              refine mt_185_0 hJ hov1 hov2 (d := d + 5) (x1 := x1) (x2 := v157) K141.1 (by first | omega | decide) (by first | omega | decide) (fun r158 hh159 br158 K160 => ?_)
              have K161 := xk_tr K141 K160 rfl
              refine xp_0 K161.1 (fun u162 u163 bu162 bu163 A164 => ?_)
              have e165 : u118 = u163 := xk_eqi (q := 9) K160 rfl A144 A164 rfl rfl
              subst e165
              refine xp_66 K161.1 (fun u167 wl166 bu167 A168 => ?_)
              have e169 : u121 = u167 := xk_eqi (q := 8) K160 rfl A148 A168 rfl rfl
              subst e169
              show xw J ov (d + 7) 182 (66, [(3, .int v157), (0, .ref 0), (1, .int x1), (2, .int x2)], [.int r158], hh159) _
              refine xi_istore (pc' := 68) (lv' := [(4, .int r158), (3, .int v157), (0, .ref 0), (1, .int x1), (2, .int x2)]) kc_182_66 rfl rfl (xm_lt ml_182 rfl) ?_
              refine xi_iload (pc' := 70) (x := r158) kc_182_68 rfl rfl ?_
              refine xi_bipush (pc' := 72) (v := (-9)) kc_182_70 rfl rfl ?_
              by_cases c170 : r158.toInt = (-9)
              · refine xi_cmf (pc' := 75) kc_182_72 rfl (xc_ne_f (X := r158.toInt) (Y := (-9)) rfl (by decide) (by omega)) ?_
                refine xi_bipush (pc' := 77) (v := (-9)) kc_182_75 rfl rfl ?_
                refine xi_ireturn kc_182_77 mr_182 rfl ?_
                have zcm9 : ((-9) : Int32).toInt = (-9) := by decide
                exact kk (-9) hh159 K161
              · refine xi_cmt (pc' := 78) kc_182_72 rfl (xc_ne_t (X := r158.toInt) (Y := (-9)) rfl (by decide) (by omega)) ?_
                refine xi_iload_n (pc' := 79) (x := x2) kc_182_78 rfl rfl ?_
                refine xi_ift (pc' := 96) kc_182_79 rfl (xc_ne_t (X := x2.toInt) (Y := 0) rfl (by decide) (by omega)) ?_
                refine xi_aload_n (pc' := 97) (x := 0) kc_182_96 rfl rfl ?_
                refine xi_getfield (pc' := 100) (v := .ref 85) kc_182_97 rfl rfl rfl A164 rfl ?_
                refine xi_iload (pc' := 102) (x := r158) kc_182_100 rfl rfl ?_
                refine xp_85 K161.1 (fun u171 u172 bu171 bu172 A173 => ?_)
                refine xi_virtual (mj := 187) (as := [.int r158]) (st1 := []) (lv0 := [(0, .ref 85), (1, .int r158)]) kc_182_102 rfl rfl rfl rfl rfl A173 (Nat.le_of_ble_eq_true rfl) (hJ _ _ _ _ (by decide)) (xm_le ml_187 rfl) rfl ?_
                refine xi_iload_n (pc' := 1) (x := r158) kc_187_0 rfl rfl ?_
                by_cases c174 : r158.toInt < 0
                · refine xi_ift (pc' := 10) kc_187_1 rfl (xc_lt_t (X := r158.toInt) (Y := 0) rfl (by decide) (by omega)) ?_
                  refine xi_bipush (pc' := 12) (v := (-9)) kc_187_10 rfl rfl ?_
                  refine xi_goto (pc' := 21) kc_187_12 rfl ?_
                  refine xi_ireturn kc_187_21 mr_187 rfl ?_
                  show xw J ov (d + 7) 182 (105, [(4, .int r158), (3, .int v157), (0, .ref 0), (1, .int x1), (2, .int x2)], [.int (-9)], hh159) _
                  refine xi_ireturn kc_182_105 mr_182 rfl ?_
                  have zcm9 : ((-9) : Int32).toInt = (-9) := by decide
                  exact kk (-9) hh159 K161
                · refine xi_iff (pc' := 4) kc_187_1 rfl (xc_lt_f (X := r158.toInt) (Y := 0) rfl (by decide) (by omega)) ?_
                  refine xi_iload_n (pc' := 5) (x := r158) kc_187_4 rfl rfl ?_
                  refine xi_bipush (pc' := 7) (v := 12) kc_187_5 rfl rfl ?_
                  refine xi_cmt (pc' := 15) kc_187_7 rfl (xc_lt_t (X := r158.toInt) (Y := 12) rfl (by decide) (by omega)) ?_
                  refine xi_aload_n (pc' := 16) (x := 85) kc_187_15 rfl rfl ?_
                  refine xi_getfield (pc' := 19) (v := .ref 88) kc_187_16 rfl rfl rfl A173 rfl ?_
                  refine xi_iload_n (pc' := 20) (x := r158) kc_187_19 rfl rfl ?_
                  refine xcps4 (xk_arr K161.1 xD_88) (fun y175 A175 hy175 ry175 => ?_)
                  refine xcps4 (xj_get hy175 ry175 (i := r158) (by omega) (by omega)) (fun v176 ev176 bv176 dv176 => ?_)
                  refine xi_iaload (pc' := 21) (v := v176) kc_187_20 rfl A175 (by decide) rfl (xi_in (by omega) (by rw [hy175]; omega)) ev176 ?_
                  refine xi_ireturn kc_187_21 mr_187 rfl ?_
                  show xw J ov (d + 7) 182 (105, [(4, .int r158), (3, .int v157), (0, .ref 0), (1, .int x1), (2, .int x2)], [.int v176], hh159) _
                  refine xi_ireturn kc_182_105 mr_182 rfl ?_
                  exact kk v176 hh159 K161
            · refine xi_cmf (pc' := 18) kc_184_15 rfl (xc_eq_f (X := v155.toInt) (Y := (-9)) rfl (by decide) (by omega)) ?_
              refine xi_iconst (pc' := 19) (v := 1) kc_184_18 rfl rfl ?_
              refine xi_goto (pc' := 23) kc_184_19 rfl ?_
              refine xi_istore_n (pc' := 24) (lv' := [(3, .int 1), (0, .ref 85), (1, .int x1), (2, .int u118)]) kc_184_23 rfl rfl (xm_lt ml_184 rfl) ?_
              refine xi_iload_n (pc' := 25) (x := 1) kc_184_24 rfl rfl ?_
              refine xi_iff (pc' := 28) kc_184_25 rfl rfl ?_
              refine xi_aload_n (pc' := 29) (x := 85) kc_184_28 rfl rfl ?_
              refine xi_getfield (pc' := 32) (v := .ref 92) kc_184_29 rfl rfl rfl A153 rfl ?_
              refine xi_iload_n (pc' := 33) (x := x1) kc_184_32 rfl rfl ?_
              refine xi_iaload (pc' := 34) (v := v155) kc_184_33 rfl A154 (by decide) rfl (xi_in (by omega) (by rw [hy154]; omega)) ev155 ?_
              refine xi_goto (pc' := 38) kc_184_34 rfl ?_
              refine xi_bipush (pc' := 40) (v := 24) kc_184_38 rfl rfl ?_
              refine xcps2 (α := Int32) (v155 / 24) (fun v177 ev177 => ?_)
              have dv177 : 24 * v177.toInt ≤ v155.toInt + 23 ∧ v155.toInt ≤ 24 * v177.toInt + 23 := by rw [← ev177]; exact xz_div (X := v155.toInt) (Y := 24) rfl (by decide) (by decide)
              have bv177 : -89478486 ≤ v177.toInt ∧ v177.toInt ≤ 89478486 := by omega
              refine xi_idiv (pc' := 41) (v := v177) kc_184_40 rfl ev177 (by decide) ?_
              refine xi_ireturn kc_184_41 mr_184 rfl ?_
              show xw J ov (d + 7) 182 (56, [(0, .ref 0), (1, .int x1), (2, .int x2)], [.int v177], hh139) _
              refine xi_istore_n (pc' := 57) (lv' := [(3, .int v177), (0, .ref 0), (1, .int x1), (2, .int x2)]) kc_182_56 rfl rfl (xm_lt ml_182 rfl) ?_
              refine xi_aload_n (pc' := 58) (x := 0) kc_182_57 rfl rfl ?_
              refine xi_getfield (pc' := 61) (v := .ref 85) kc_182_58 rfl rfl rfl A144 rfl ?_
              refine xi_iload_n (pc' := 62) (x := x1) kc_182_61 rfl rfl ?_
              refine xi_iload_n (pc' := 63) (x := v177) kc_182_62 rfl rfl ?_
              refine xi_virtual (mj := 185) (as := [.int x1, .int v177]) (st1 := []) (lv0 := [(0, .ref 85), (1, .int x1), (2, .int v177)]) kc_182_63 rfl rfl rfl rfl rfl A153 (Nat.le_of_ble_eq_true rfl) (hJ _ _ _ _ (by decide)) (xm_le ml_185 rfl) rfl ?_
              refine mt_185_0 hJ hov1 hov2 (d := d + 5) (x1 := x1) (x2 := v177) K141.1 (by first | omega | decide) (by first | omega | decide) (fun r178 hh179 br178 K180 => ?_)
              have K181 := xk_tr K141 K180 rfl
              refine xp_0 K181.1 (fun u182 u183 bu182 bu183 A184 => ?_)
              have e185 : u118 = u183 := xk_eqi (q := 9) K180 rfl A144 A184 rfl rfl
              subst e185
              refine xp_66 K181.1 (fun u187 wl186 bu187 A188 => ?_)
              have e189 : u121 = u187 := xk_eqi (q := 8) K180 rfl A148 A188 rfl rfl
              subst e189
              show xw J ov (d + 7) 182 (66, [(3, .int v177), (0, .ref 0), (1, .int x1), (2, .int x2)], [.int r178], hh179) _
              refine xi_istore (pc' := 68) (lv' := [(4, .int r178), (3, .int v177), (0, .ref 0), (1, .int x1), (2, .int x2)]) kc_182_66 rfl rfl (xm_lt ml_182 rfl) ?_
              refine xi_iload (pc' := 70) (x := r178) kc_182_68 rfl rfl ?_
              refine xi_bipush (pc' := 72) (v := (-9)) kc_182_70 rfl rfl ?_
              by_cases c190 : r178.toInt = (-9)
              · refine xi_cmf (pc' := 75) kc_182_72 rfl (xc_ne_f (X := r178.toInt) (Y := (-9)) rfl (by decide) (by omega)) ?_
                refine xi_bipush (pc' := 77) (v := (-9)) kc_182_75 rfl rfl ?_
                refine xi_ireturn kc_182_77 mr_182 rfl ?_
                have zcm9 : ((-9) : Int32).toInt = (-9) := by decide
                exact kk (-9) hh179 K181
              · refine xi_cmt (pc' := 78) kc_182_72 rfl (xc_ne_t (X := r178.toInt) (Y := (-9)) rfl (by decide) (by omega)) ?_
                refine xi_iload_n (pc' := 79) (x := x2) kc_182_78 rfl rfl ?_
                refine xi_ift (pc' := 96) kc_182_79 rfl (xc_ne_t (X := x2.toInt) (Y := 0) rfl (by decide) (by omega)) ?_
                refine xi_aload_n (pc' := 97) (x := 0) kc_182_96 rfl rfl ?_
                refine xi_getfield (pc' := 100) (v := .ref 85) kc_182_97 rfl rfl rfl A184 rfl ?_
                refine xi_iload (pc' := 102) (x := r178) kc_182_100 rfl rfl ?_
                refine xp_85 K181.1 (fun u191 u192 bu191 bu192 A193 => ?_)
                refine xi_virtual (mj := 187) (as := [.int r178]) (st1 := []) (lv0 := [(0, .ref 85), (1, .int r178)]) kc_182_102 rfl rfl rfl rfl rfl A193 (Nat.le_of_ble_eq_true rfl) (hJ _ _ _ _ (by decide)) (xm_le ml_187 rfl) rfl ?_
                refine xi_iload_n (pc' := 1) (x := r178) kc_187_0 rfl rfl ?_
                by_cases c194 : r178.toInt < 0
                · refine xi_ift (pc' := 10) kc_187_1 rfl (xc_lt_t (X := r178.toInt) (Y := 0) rfl (by decide) (by omega)) ?_
                  refine xi_bipush (pc' := 12) (v := (-9)) kc_187_10 rfl rfl ?_
                  refine xi_goto (pc' := 21) kc_187_12 rfl ?_
                  refine xi_ireturn kc_187_21 mr_187 rfl ?_
                  show xw J ov (d + 7) 182 (105, [(4, .int r178), (3, .int v177), (0, .ref 0), (1, .int x1), (2, .int x2)], [.int (-9)], hh179) _
                  refine xi_ireturn kc_182_105 mr_182 rfl ?_
                  have zcm9 : ((-9) : Int32).toInt = (-9) := by decide
                  exact kk (-9) hh179 K181
                · refine xi_iff (pc' := 4) kc_187_1 rfl (xc_lt_f (X := r178.toInt) (Y := 0) rfl (by decide) (by omega)) ?_
                  refine xi_iload_n (pc' := 5) (x := r178) kc_187_4 rfl rfl ?_
                  refine xi_bipush (pc' := 7) (v := 12) kc_187_5 rfl rfl ?_
                  refine xi_cmt (pc' := 15) kc_187_7 rfl (xc_lt_t (X := r178.toInt) (Y := 12) rfl (by decide) (by omega)) ?_
                  refine xi_aload_n (pc' := 16) (x := 85) kc_187_15 rfl rfl ?_
                  refine xi_getfield (pc' := 19) (v := .ref 88) kc_187_16 rfl rfl rfl A193 rfl ?_
                  refine xi_iload_n (pc' := 20) (x := r178) kc_187_19 rfl rfl ?_
                  refine xcps4 (xk_arr K181.1 xD_88) (fun y195 A195 hy195 ry195 => ?_)
                  refine xcps4 (xj_get hy195 ry195 (i := r178) (by omega) (by omega)) (fun v196 ev196 bv196 dv196 => ?_)
                  refine xi_iaload (pc' := 21) (v := v196) kc_187_20 rfl A195 (by decide) rfl (xi_in (by omega) (by rw [hy195]; omega)) ev196 ?_
                  refine xi_ireturn kc_187_21 mr_187 rfl ?_
                  show xw J ov (d + 7) 182 (105, [(4, .int r178), (3, .int v177), (0, .ref 0), (1, .int x1), (2, .int x2)], [.int v196], hh179) _
                  refine xi_ireturn kc_182_105 mr_182 rfl ?_
                  exact kk v196 hh179 K181
        · refine xi_cmf (pc' := 16) kc_182_13 rfl (xc_eq_f (X := x2.toInt) (Y := 1) rfl (by decide) (by omega)) ?_
          refine xi_aload_n (pc' := 17) (x := 0) kc_182_16 rfl rfl ?_
          refine xi_bipush (pc' := 19) (v := (-2)) kc_182_17 rfl rfl ?_
          refine xp_0 K.1 (fun u197 u198 bu197 bu198 A199 => ?_)
          refine xi_virtual (mj := 90) (as := [.int (-2)]) (st1 := []) (lv0 := [(0, .ref 0), (1, .int (-2))]) kc_182_19 rfl rfl rfl rfl rfl A199 (Nat.le_of_ble_eq_true rfl) (hJ _ _ _ _ (by decide)) (xm_le ml_90 rfl) rfl ?_
          refine xi_iload_n (pc' := 1) (x := (-2)) kc_90_0 rfl rfl ?_
          refine xi_ineg (pc' := 2) (v := 2) kc_90_1 rfl rfl ?_
          refine xi_istore_n (pc' := 3) (lv' := [(2, .int 2), (0, .ref 0), (1, .int (-2))]) kc_90_2 rfl rfl (xm_lt ml_90 rfl) ?_
          refine xi_iload_n (pc' := 4) (x := 2) kc_90_3 rfl rfl ?_
          refine xi_iff (pc' := 7) kc_90_4 rfl rfl ?_
          refine xi_iload_n (pc' := 8) (x := 2) kc_90_7 rfl rfl ?_
          refine xi_aload_n (pc' := 9) (x := 0) kc_90_8 rfl rfl ?_
          refine xi_getfield (pc' := 12) (v := .ref 94) kc_90_9 rfl rfl rfl A199 rfl ?_
          refine xcps4 (xk_arr K.1 xD_94) (fun y200 A200 hy200 ry200 => ?_)
          refine xi_arraylength (pc' := 13) (n := 7) (v := 7) kc_90_12 rfl (xl_lenI (by decide) (by decide) A200 hy200) rfl ?_
          refine xi_cmf (pc' := 16) kc_90_13 rfl rfl ?_
          refine xi_aload_n (pc' := 17) (x := 0) kc_90_16 rfl rfl ?_
          refine xi_getfield (pc' := 20) (v := .ref 94) kc_90_17 rfl rfl rfl A199 rfl ?_
          refine xi_iload_n (pc' := 21) (x := 2) kc_90_20 rfl rfl ?_
          refine xi_dup2 (pc' := 22) kc_90_21 rfl ⟨rfl, rfl⟩ ?_
          refine xcps4 (xj_get hy200 ry200 (i := 2) (by decide) (by decide)) (fun v201 ev201 bv201 dv201 => ?_)
          refine xi_iaload (pc' := 23) (v := v201) kc_90_22 rfl A200 (by decide) rfl (xi_in (by decide) (by rw [hy200]; decide)) ev201 ?_
          refine xi_iconst (pc' := 24) (v := 1) kc_90_23 rfl rfl ?_
          refine xcps2 (α := Int32) ((v201 : Int32) + 1) (fun v202 ev202 => ?_)
          have rv202 := xc_rng v202
          refine xi_iadd (pc' := 25) (v := v202) kc_90_24 rfl ev202 ?_
          refine xcps4 (xj_set (v := v202) hy200 ry200 2 (by first | omega | decide) (by first | omega | decide)) (fun y203 s203 hy203 ry203 => ?_)
          refine xi_iastore (pc' := 26) (x' := y203) kc_90_25 rfl A200 rfl (xi_in (by decide) (by rw [hy200]; decide)) s203 (fun hh203 eh203 => ?_)
          have K204 := xk_pa K (xk_wa rfl) xD_94 hy203 ry203 eh203
          refine xi_iload_n (pc' := 27) (x := (-2)) kc_90_26 rfl rfl ?_
          refine xi_ireturn kc_90_27 mr_90 rfl ?_
          show xw J ov (d + 7) 182 (22, [(0, .ref 0), (1, .int x1), (2, .int x2)], [.int (-2)], hh203) _
          refine xi_ireturn kc_182_22 mr_182 rfl ?_
          have zcm2 : ((-2) : Int32).toInt = (-2) := by decide
          exact kk (-2) hh203 K204
set_option maxHeartbeats 4000000 in
theorem mt_188_0 {J : xe_J} {ov : List (List Int32)} (hJ : ∀ d mj as h, mj ≠ xe_loff → J d mj as h = none) (hov1 : ov[1]? = some [10, 0, 0, 0, 0, 0]) (hov2 : ov[2]? = some [99, 30, 50, 50, 1, 99999]) {d : Nat} {Q : Option Value → xe_H → Prop} {h : xe_H} {x1 : Int32} (T : xt h) (kk : (∀ (r : Int32) (h' : xe_H), ((-2) ≤ r.toInt ∧ r.toInt ≤ 1) → xk [(0, 9), (115, 1), (83, 0), (29, 0), (31, 0), (33, 0), (35, 0), (37, 0), (39, 0), (41, 0), (43, 0), (45, 0), (47, 0), (49, 0), (51, 0), (125, 0), (66, 8), (115, 18), (71, 0), (132, 0)] h h' → Q (some (.int r)) h')) : xw J ov (d + 2) 188 (0, [(0, .ref 0), (1, .int x1)], [], h) Q := by
  have K : xk [(0, 9), (115, 1), (83, 0), (29, 0), (31, 0), (33, 0), (35, 0), (37, 0), (39, 0), (41, 0), (43, 0), (45, 0), (47, 0), (49, 0), (51, 0), (125, 0), (66, 8), (115, 18), (71, 0), (132, 0)] h h := xk_re T
  have rx1 := xc_rng x1
  refine xi_iload_n (pc' := 1) (x := x1) kc_188_0 rfl rfl ?_
  refine xi_static (mj := 117) (as := [.int x1]) (st1 := []) (lv0 := [(0, .int x1)]) kc_188_1 rfl rfl (Nat.le_of_ble_eq_true rfl) rfl rfl (Nat.le_of_ble_eq_true rfl) (hJ _ _ _ _ (by decide)) (xm_le ml_117 rfl) rfl ?_
  refine xi_iload_n (pc' := 1) (x := x1) kc_117_0 rfl rfl ?_
  by_cases c1 : x1.toInt < 0
  · refine xi_ift (pc' := 13) kc_117_1 rfl (xc_lt_t (X := x1.toInt) (Y := 0) rfl (by decide) (by omega)) ?_
    refine xi_iconst (pc' := 14) (v := 0) kc_117_13 rfl rfl ?_
    refine xi_ireturn kc_117_14 mr_117 rfl ?_
    show xw J ov (d + 2) 188 (4, [(0, .ref 0), (1, .int x1)], [.int 0], h) _
    refine xi_iff (pc' := 7) kc_188_4 rfl rfl ?_
    refine xi_aload_n (pc' := 8) (x := 0) kc_188_7 rfl rfl ?_
    refine xi_bipush (pc' := 10) (v := (-2)) kc_188_8 rfl rfl ?_
    refine xp_0 K.1 (fun u2 u3 bu2 bu3 A4 => ?_)
    refine xi_virtual (mj := 90) (as := [.int (-2)]) (st1 := []) (lv0 := [(0, .ref 0), (1, .int (-2))]) kc_188_10 rfl rfl rfl rfl rfl A4 (Nat.le_of_ble_eq_true rfl) (hJ _ _ _ _ (by decide)) (xm_le ml_90 rfl) rfl ?_
    refine xi_iload_n (pc' := 1) (x := (-2)) kc_90_0 rfl rfl ?_
    refine xi_ineg (pc' := 2) (v := 2) kc_90_1 rfl rfl ?_
    refine xi_istore_n (pc' := 3) (lv' := [(2, .int 2), (0, .ref 0), (1, .int (-2))]) kc_90_2 rfl rfl (xm_lt ml_90 rfl) ?_
    refine xi_iload_n (pc' := 4) (x := 2) kc_90_3 rfl rfl ?_
    refine xi_iff (pc' := 7) kc_90_4 rfl rfl ?_
    refine xi_iload_n (pc' := 8) (x := 2) kc_90_7 rfl rfl ?_
    refine xi_aload_n (pc' := 9) (x := 0) kc_90_8 rfl rfl ?_
    refine xi_getfield (pc' := 12) (v := .ref 94) kc_90_9 rfl rfl rfl A4 rfl ?_
    refine xcps4 (xk_arr K.1 xD_94) (fun y5 A5 hy5 ry5 => ?_)
    refine xi_arraylength (pc' := 13) (n := 7) (v := 7) kc_90_12 rfl (xl_lenI (by decide) (by decide) A5 hy5) rfl ?_
    refine xi_cmf (pc' := 16) kc_90_13 rfl rfl ?_
    refine xi_aload_n (pc' := 17) (x := 0) kc_90_16 rfl rfl ?_
    refine xi_getfield (pc' := 20) (v := .ref 94) kc_90_17 rfl rfl rfl A4 rfl ?_
    refine xi_iload_n (pc' := 21) (x := 2) kc_90_20 rfl rfl ?_
    refine xi_dup2 (pc' := 22) kc_90_21 rfl ⟨rfl, rfl⟩ ?_
    refine xcps4 (xj_get hy5 ry5 (i := 2) (by decide) (by decide)) (fun v6 ev6 bv6 dv6 => ?_)
    refine xi_iaload (pc' := 23) (v := v6) kc_90_22 rfl A5 (by decide) rfl (xi_in (by decide) (by rw [hy5]; decide)) ev6 ?_
    refine xi_iconst (pc' := 24) (v := 1) kc_90_23 rfl rfl ?_
    refine xcps2 (α := Int32) ((v6 : Int32) + 1) (fun v7 ev7 => ?_)
    have rv7 := xc_rng v7
    refine xi_iadd (pc' := 25) (v := v7) kc_90_24 rfl ev7 ?_
    refine xcps4 (xj_set (v := v7) hy5 ry5 2 (by first | omega | decide) (by first | omega | decide)) (fun y8 s8 hy8 ry8 => ?_)
    refine xi_iastore (pc' := 26) (x' := y8) kc_90_25 rfl A5 rfl (xi_in (by decide) (by rw [hy5]; decide)) s8 (fun hh8 eh8 => ?_)
    have K9 := xk_pa K (xk_wa rfl) xD_94 hy8 ry8 eh8
    refine xi_iload_n (pc' := 27) (x := (-2)) kc_90_26 rfl rfl ?_
    refine xi_ireturn kc_90_27 mr_90 rfl ?_
    show xw J ov (d + 2) 188 (13, [(0, .ref 0), (1, .int x1)], [.int (-2)], hh8) _
    refine xi_ireturn kc_188_13 mr_188 rfl ?_
    have zcm2 : ((-2) : Int32).toInt = (-2) := by decide
    exact kk (-2) hh8 (by omega) K9
  · refine xi_iff (pc' := 4) kc_117_1 rfl (xc_lt_f (X := x1.toInt) (Y := 0) rfl (by decide) (by omega)) ?_
    refine xi_iload_n (pc' := 5) (x := x1) kc_117_4 rfl rfl ?_
    refine xi_iconst (pc' := 6) (v := 4) kc_117_5 rfl rfl ?_
    by_cases c10 : 4 ≤ x1.toInt
    · refine xi_cmt (pc' := 13) kc_117_6 rfl (xc_ge_t (X := x1.toInt) (Y := 4) rfl (by decide) (by omega)) ?_
      refine xi_iconst (pc' := 14) (v := 0) kc_117_13 rfl rfl ?_
      refine xi_ireturn kc_117_14 mr_117 rfl ?_
      show xw J ov (d + 2) 188 (4, [(0, .ref 0), (1, .int x1)], [.int 0], h) _
      refine xi_iff (pc' := 7) kc_188_4 rfl rfl ?_
      refine xi_aload_n (pc' := 8) (x := 0) kc_188_7 rfl rfl ?_
      refine xi_bipush (pc' := 10) (v := (-2)) kc_188_8 rfl rfl ?_
      refine xp_0 K.1 (fun u11 u12 bu11 bu12 A13 => ?_)
      refine xi_virtual (mj := 90) (as := [.int (-2)]) (st1 := []) (lv0 := [(0, .ref 0), (1, .int (-2))]) kc_188_10 rfl rfl rfl rfl rfl A13 (Nat.le_of_ble_eq_true rfl) (hJ _ _ _ _ (by decide)) (xm_le ml_90 rfl) rfl ?_
      refine xi_iload_n (pc' := 1) (x := (-2)) kc_90_0 rfl rfl ?_
      refine xi_ineg (pc' := 2) (v := 2) kc_90_1 rfl rfl ?_
      refine xi_istore_n (pc' := 3) (lv' := [(2, .int 2), (0, .ref 0), (1, .int (-2))]) kc_90_2 rfl rfl (xm_lt ml_90 rfl) ?_
      refine xi_iload_n (pc' := 4) (x := 2) kc_90_3 rfl rfl ?_
      refine xi_iff (pc' := 7) kc_90_4 rfl rfl ?_
      refine xi_iload_n (pc' := 8) (x := 2) kc_90_7 rfl rfl ?_
      refine xi_aload_n (pc' := 9) (x := 0) kc_90_8 rfl rfl ?_
      refine xi_getfield (pc' := 12) (v := .ref 94) kc_90_9 rfl rfl rfl A13 rfl ?_
      refine xcps4 (xk_arr K.1 xD_94) (fun y14 A14 hy14 ry14 => ?_)
      refine xi_arraylength (pc' := 13) (n := 7) (v := 7) kc_90_12 rfl (xl_lenI (by decide) (by decide) A14 hy14) rfl ?_
      refine xi_cmf (pc' := 16) kc_90_13 rfl rfl ?_
      refine xi_aload_n (pc' := 17) (x := 0) kc_90_16 rfl rfl ?_
      refine xi_getfield (pc' := 20) (v := .ref 94) kc_90_17 rfl rfl rfl A13 rfl ?_
      refine xi_iload_n (pc' := 21) (x := 2) kc_90_20 rfl rfl ?_
      refine xi_dup2 (pc' := 22) kc_90_21 rfl ⟨rfl, rfl⟩ ?_
      refine xcps4 (xj_get hy14 ry14 (i := 2) (by decide) (by decide)) (fun v15 ev15 bv15 dv15 => ?_)
      refine xi_iaload (pc' := 23) (v := v15) kc_90_22 rfl A14 (by decide) rfl (xi_in (by decide) (by rw [hy14]; decide)) ev15 ?_
      refine xi_iconst (pc' := 24) (v := 1) kc_90_23 rfl rfl ?_
      refine xcps2 (α := Int32) ((v15 : Int32) + 1) (fun v16 ev16 => ?_)
      have rv16 := xc_rng v16
      refine xi_iadd (pc' := 25) (v := v16) kc_90_24 rfl ev16 ?_
      refine xcps4 (xj_set (v := v16) hy14 ry14 2 (by first | omega | decide) (by first | omega | decide)) (fun y17 s17 hy17 ry17 => ?_)
      refine xi_iastore (pc' := 26) (x' := y17) kc_90_25 rfl A14 rfl (xi_in (by decide) (by rw [hy14]; decide)) s17 (fun hh17 eh17 => ?_)
      have K18 := xk_pa K (xk_wa rfl) xD_94 hy17 ry17 eh17
      refine xi_iload_n (pc' := 27) (x := (-2)) kc_90_26 rfl rfl ?_
      refine xi_ireturn kc_90_27 mr_90 rfl ?_
      show xw J ov (d + 2) 188 (13, [(0, .ref 0), (1, .int x1)], [.int (-2)], hh17) _
      refine xi_ireturn kc_188_13 mr_188 rfl ?_
      have zcm2 : ((-2) : Int32).toInt = (-2) := by decide
      exact kk (-2) hh17 (by omega) K18
    · refine xi_cmf (pc' := 9) kc_117_6 rfl (xc_ge_f (X := x1.toInt) (Y := 4) rfl (by decide) (by omega)) ?_
      refine xi_iconst (pc' := 10) (v := 1) kc_117_9 rfl rfl ?_
      refine xi_goto (pc' := 14) kc_117_10 rfl ?_
      refine xi_ireturn kc_117_14 mr_117 rfl ?_
      show xw J ov (d + 2) 188 (4, [(0, .ref 0), (1, .int x1)], [.int 1], h) _
      refine xi_ift (pc' := 14) kc_188_4 rfl rfl ?_
      refine xi_aload_n (pc' := 15) (x := 0) kc_188_14 rfl rfl ?_
      refine xp_0 K.1 (fun u19 u20 bu19 bu20 A21 => ?_)
      refine xi_getfield (pc' := 18) (v := .ref 85) kc_188_15 rfl rfl rfl A21 rfl ?_
      refine xi_iload_n (pc' := 19) (x := x1) kc_188_18 rfl rfl ?_
      refine xp_85 K.1 (fun u22 u23 bu22 bu23 A24 => ?_)
      refine xi_virtual (mj := 189) (as := [.int x1]) (st1 := []) (lv0 := [(0, .ref 85), (1, .int x1)]) kc_188_19 rfl rfl rfl rfl rfl A24 (Nat.le_of_ble_eq_true rfl) (hJ _ _ _ _ (by decide)) (xm_le ml_189 rfl) rfl ?_
      refine xi_iload_n (pc' := 1) (x := x1) kc_189_0 rfl rfl ?_
      refine xi_static (mj := 117) (as := [.int x1]) (st1 := []) (lv0 := [(0, .int x1)]) kc_189_1 rfl rfl (Nat.le_of_ble_eq_true rfl) rfl rfl (Nat.le_of_ble_eq_true rfl) (hJ _ _ _ _ (by decide)) (xm_le ml_117 rfl) rfl ?_
      refine xi_iload_n (pc' := 1) (x := x1) kc_117_0 rfl rfl ?_
      refine xi_iff (pc' := 4) kc_117_1 rfl (xc_lt_f (X := x1.toInt) (Y := 0) rfl (by decide) (by omega)) ?_
      refine xi_iload_n (pc' := 5) (x := x1) kc_117_4 rfl rfl ?_
      refine xi_iconst (pc' := 6) (v := 4) kc_117_5 rfl rfl ?_
      refine xi_cmf (pc' := 9) kc_117_6 rfl (xc_ge_f (X := x1.toInt) (Y := 4) rfl (by decide) (by omega)) ?_
      refine xi_iconst (pc' := 10) (v := 1) kc_117_9 rfl rfl ?_
      refine xi_goto (pc' := 14) kc_117_10 rfl ?_
      refine xi_ireturn kc_117_14 mr_117 rfl ?_
      show xw J ov (d + 1) 189 (4, [(0, .ref 85), (1, .int x1)], [.int 1], h) _
      refine xi_iff (pc' := 7) kc_189_4 rfl rfl ?_
      refine xi_aload_n (pc' := 8) (x := 85) kc_189_7 rfl rfl ?_
      refine xi_getfield (pc' := 11) (v := .ref 90) kc_189_8 rfl rfl rfl A24 rfl ?_
      refine xi_iload_n (pc' := 12) (x := x1) kc_189_11 rfl rfl ?_
      refine xcps4 (xk_arr K.1 xD_90) (fun y25 A25 hy25 ry25 => ?_)
      refine xcps4 (xj_get hy25 ry25 (i := x1) (by omega) (by omega)) (fun v26 ev26 bv26 dv26 => ?_)
      refine xi_iaload (pc' := 13) (v := v26) kc_189_12 rfl A25 (by decide) rfl (xi_in (by omega) (by rw [hy25]; omega)) ev26 ?_
      by_cases c27 : v26.toInt = 0
      · refine xi_ift (pc' := 44) kc_189_13 rfl (xc_eq_t (X := v26.toInt) (Y := 0) rfl (by decide) (by omega)) ?_
        refine xi_iconst (pc' := 45) (v := 0) kc_189_44 rfl rfl ?_
        refine xi_ireturn kc_189_45 mr_189 rfl ?_
        show xw J ov (d + 2) 188 (22, [(0, .ref 0), (1, .int x1)], [.int 0], h) _
        refine xi_ift (pc' := 29) kc_188_22 rfl rfl ?_
        refine xi_iconst (pc' := 30) (v := 0) kc_188_29 rfl rfl ?_
        refine xi_ireturn kc_188_30 mr_188 rfl ?_
        have zc0 : (0 : Int32).toInt = 0 := by decide
        exact kk 0 h (by omega) K
      · refine xi_iff (pc' := 16) kc_189_13 rfl (xc_eq_f (X := v26.toInt) (Y := 0) rfl (by decide) (by omega)) ?_
        refine xi_aload_n (pc' := 17) (x := 85) kc_189_16 rfl rfl ?_
        refine xi_getfield (pc' := 20) (v := .ref 91) kc_189_17 rfl rfl rfl A24 rfl ?_
        refine xi_iload_n (pc' := 21) (x := x1) kc_189_20 rfl rfl ?_
        refine xcps4 (xk_arr K.1 xD_91) (fun y28 A28 hy28 ry28 => ?_)
        refine xcps4 (xj_get hy28 ry28 (i := x1) (by omega) (by omega)) (fun v29 ev29 bv29 dv29 => ?_)
        refine xi_iaload (pc' := 22) (v := v29) kc_189_21 rfl A28 (by decide) rfl (xi_in (by omega) (by rw [hy28]; omega)) ev29 ?_
        by_cases c30 : v29.toInt = 0
        · refine xi_ift (pc' := 44) kc_189_22 rfl (xc_eq_t (X := v29.toInt) (Y := 0) rfl (by decide) (by omega)) ?_
          refine xi_iconst (pc' := 45) (v := 0) kc_189_44 rfl rfl ?_
          refine xi_ireturn kc_189_45 mr_189 rfl ?_
          show xw J ov (d + 2) 188 (22, [(0, .ref 0), (1, .int x1)], [.int 0], h) _
          refine xi_ift (pc' := 29) kc_188_22 rfl rfl ?_
          refine xi_iconst (pc' := 30) (v := 0) kc_188_29 rfl rfl ?_
          refine xi_ireturn kc_188_30 mr_188 rfl ?_
          have zc0 : (0 : Int32).toInt = 0 := by decide
          exact kk 0 h (by omega) K
        · refine xi_iff (pc' := 25) kc_189_22 rfl (xc_eq_f (X := v29.toInt) (Y := 0) rfl (by decide) (by omega)) ?_
          refine xi_aload_n (pc' := 26) (x := 85) kc_189_25 rfl rfl ?_
          refine xi_getfield (pc' := 29) (v := .ref 90) kc_189_26 rfl rfl rfl A24 rfl ?_
          refine xi_iload_n (pc' := 30) (x := x1) kc_189_29 rfl rfl ?_
          refine xi_iaload (pc' := 31) (v := v26) kc_189_30 rfl A25 (by decide) rfl (xi_in (by omega) (by rw [hy25]; omega)) ev26 ?_
          refine xi_aload_n (pc' := 32) (x := 85) kc_189_31 rfl rfl ?_
          refine xi_getfield (pc' := 35) (v := .ref 91) kc_189_32 rfl rfl rfl A24 rfl ?_
          refine xi_iload_n (pc' := 36) (x := x1) kc_189_35 rfl rfl ?_
          refine xi_iaload (pc' := 37) (v := v29) kc_189_36 rfl A28 (by decide) rfl (xi_in (by omega) (by rw [hy28]; omega)) ev29 ?_
          by_cases c31 : v26.toInt = v29.toInt
          · refine xi_cmt (pc' := 44) kc_189_37 rfl (xc_eq_t (X := v26.toInt) (Y := v29.toInt) rfl rfl (by omega)) ?_
            refine xi_iconst (pc' := 45) (v := 0) kc_189_44 rfl rfl ?_
            refine xi_ireturn kc_189_45 mr_189 rfl ?_
            show xw J ov (d + 2) 188 (22, [(0, .ref 0), (1, .int x1)], [.int 0], h) _
            refine xi_ift (pc' := 29) kc_188_22 rfl rfl ?_
            refine xi_iconst (pc' := 30) (v := 0) kc_188_29 rfl rfl ?_
            refine xi_ireturn kc_188_30 mr_188 rfl ?_
            have zc0 : (0 : Int32).toInt = 0 := by decide
            exact kk 0 h (by omega) K
          · refine xi_cmf (pc' := 40) kc_189_37 rfl (xc_eq_f (X := v26.toInt) (Y := v29.toInt) rfl rfl (by omega)) ?_
            refine xi_iconst (pc' := 41) (v := 1) kc_189_40 rfl rfl ?_
            refine xi_goto (pc' := 45) kc_189_41 rfl ?_
            refine xi_ireturn kc_189_45 mr_189 rfl ?_
            show xw J ov (d + 2) 188 (22, [(0, .ref 0), (1, .int x1)], [.int 1], h) _
            refine xi_iff (pc' := 25) kc_188_22 rfl rfl ?_
            refine xi_iconst (pc' := 26) (v := 1) kc_188_25 rfl rfl ?_
            refine xi_goto (pc' := 30) kc_188_26 rfl ?_
            refine xi_ireturn kc_188_30 mr_188 rfl ?_
            have zc1 : (1 : Int32).toInt = 1 := by decide
            exact kk 1 h (by omega) K
set_option maxHeartbeats 4000000 in
theorem lp_191_0 {J : xe_J} {ov : List (List Int32)} (hJ : ∀ d mj as h, mj ≠ xe_loff → J d mj as h = none) (hov1 : ov[1]? = some [10, 0, 0, 0, 0, 0]) (hov2 : ov[2]? = some [99, 30, 50, 50, 1, 99999]) {d : Nat} {Q : Option Value → xe_H → Prop} {hb : xe_H} (kk : (∀ (r : Int32) (h' : xe_H), xk [(0, 9), (115, 1), (83, 0), (29, 0), (31, 0), (33, 0), (35, 0), (37, 0), (39, 0), (41, 0), (43, 0), (45, 0), (47, 0), (49, 0), (51, 0), (125, 0), (66, 8), (115, 18), (71, 0), (132, 0)] hb h' → Q (some (.int r)) h')) : ∀ m : Nat, (∀ (x1 : Int32) (x2 : Int32) (h : xe_H), (0 ≤ x2.toInt ∧ x2.toInt ≤ 12) → xk [(0, 9), (115, 1), (83, 0), (29, 0), (31, 0), (33, 0), (35, 0), (37, 0), (39, 0), (41, 0), (43, 0), (45, 0), (47, 0), (49, 0), (51, 0), (125, 0), (66, 8), (115, 18), (71, 0), (132, 0)] hb h → (-1) * x2.toInt + 12 < (m : Int) → xw J ov (d + 2) 191 (4, [(0, .ref 1), (1, .int x1), (2, .int x2)], [], h) Q) := by
  intro m
  induction m with
  | zero =>
    intro x1 x2 h b2 K hm; have rx1 := xc_rng x1; exfalso; omega
  | succ m ih =>
    have i0 := ih
    intro x1 x2 h b2 K hm
    have rx1 := xc_rng x1
    refine xi_iload_n (pc' := 5) (x := x2) kc_191_4 rfl rfl ?_
    refine xi_bipush (pc' := 7) (v := 12) kc_191_5 rfl rfl ?_
    by_cases c1 : 12 ≤ x2.toInt
    · refine xi_cmt (pc' := 36) kc_191_7 rfl (xc_ge_t (X := x2.toInt) (Y := 12) rfl (by decide) (by omega)) ?_
      refine xi_iload_n (pc' := 37) (x := x1) kc_191_36 rfl rfl ?_
      refine xi_ireturn kc_191_37 mr_191 rfl ?_
      exact kk x1 h K
    · refine xi_cmf (pc' := 10) kc_191_7 rfl (xc_ge_f (X := x2.toInt) (Y := 12) rfl (by decide) (by omega)) ?_
      refine xi_iload_n (pc' := 11) (x := x1) kc_191_10 rfl rfl ?_
      refine xi_aload_n (pc' := 12) (x := 1) kc_191_11 rfl rfl ?_
      refine xp_1 K.1 (fun u2 u3 bu2 bu3 A4 => ?_)
      refine xi_getfield (pc' := 15) (v := .ref 3) kc_191_12 rfl rfl rfl A4 rfl ?_
      refine xi_iload_n (pc' := 16) (x := x2) kc_191_15 rfl rfl ?_
      have A5 := xk_ex K.1 xD_3
      obtain ⟨pt6, ept6, mpt6⟩ := xR_3 (i := x2) (by omega) (by omega)
      refine xj_aaload (pc' := 17) (b := pt6) kc_191_16 rfl A5 rfl (xi_in (n := 12) (by omega) (by omega)) ept6 ?_
      obtain ⟨u7, u8, u9, u10, pt11, bu7, bu8, bu9, bu10, mpt11, A12⟩ := xg_wall K.1 mpt6
      refine xi_virtual (mj := 105) (as := []) (st1 := [.int x1]) (lv0 := [(0, .ref pt6)]) kc_191_17 rfl rfl rfl rfl rfl A12 (Nat.le_of_ble_eq_true rfl) (hJ _ _ _ _ (by decide)) (xm_le ml_105 rfl) rfl ?_
      refine xi_aload_n (pc' := 1) (x := pt6) kc_105_0 rfl rfl ?_
      refine xi_getfield (pc' := 4) (v := .int u7) kc_105_1 rfl rfl rfl A12 rfl ?_
      refine xi_static (mj := 89) (as := [.int u7]) (st1 := []) (lv0 := [(0, .int u7)]) kc_105_4 rfl rfl (Nat.le_of_ble_eq_true rfl) rfl rfl (Nat.le_of_ble_eq_true rfl) (hJ _ _ _ _ (by decide)) (xm_le ml_89 rfl) rfl ?_
      refine xi_iload_n (pc' := 1) (x := u7) kc_89_0 rfl rfl ?_
      by_cases c13 : u7.toInt < 0
      · refine xi_ift (pc' := 14) kc_89_1 rfl (xc_lt_t (X := u7.toInt) (Y := 0) rfl (by decide) (by omega)) ?_
        refine xi_iconst (pc' := 15) (v := 0) kc_89_14 rfl rfl ?_
        refine xi_ireturn kc_89_15 mr_89 rfl ?_
        show xw J ov (d + 1) 105 (7, [(0, .ref pt6)], [.int 0], h) _
        refine xi_ireturn kc_105_7 mr_105 rfl ?_
        show xw J ov (d + 2) 191 (20, [(0, .ref 1), (1, .int x1), (2, .int x2)], [.int 0, .int x1], h) _
        refine xi_ift (pc' := 27) kc_191_20 rfl rfl ?_
        refine xi_iconst (pc' := 28) (v := 0) kc_191_27 rfl rfl ?_
        refine xcps2 (α := Int32) (x1 + 0) (fun v14 ev14 => ?_)
        have zv14 : v14.toInt = x1.toInt := by rw [← ev14]; exact (xz_add (X := x1.toInt) (Y := 0) rfl (by decide) (by omega) (by omega)).trans (by omega)
        refine xi_iadd (pc' := 29) (v := v14) kc_191_28 rfl ev14 ?_
        refine xi_istore_n (pc' := 30) (lv' := [(1, .int v14), (0, .ref 1), (2, .int x2)]) kc_191_29 rfl rfl (xm_lt ml_191 rfl) ?_
        refine xcps2 (α := Int32) (x2 + 1) (fun v15 ev15 => ?_)
        have zv15 : v15.toInt = (x2.toInt + 1) := by rw [← ev15]; exact (xz_add (X := x2.toInt) (Y := 1) rfl (by decide) (by omega) (by omega)).trans (by omega)
        refine xi_iinc (pc' := 33) (x := x2) (v := v15) (lv' := [(2, .int v15), (1, .int v14), (0, .ref 1)]) kc_191_30 rfl rfl ev15 rfl (xm_lt ml_191 rfl) ?_
        refine xi_goto (pc' := 4) kc_191_33 rfl ?_
        refine xw_lv (b := [(0, .ref 1), (1, .int v14), (2, .int v15)]) (lvS_cons (lvS_cons (lvS_cons (lvS_nil (show ([2, 1, 0] : List Nat).Nodup by decide)) rfl) rfl) rfl) ?_
        exact i0 v14 v15 h (by omega) K (by omega)
      · refine xi_iff (pc' := 4) kc_89_1 rfl (xc_lt_f (X := u7.toInt) (Y := 0) rfl (by decide) (by omega)) ?_
        refine xi_iload_n (pc' := 5) (x := u7) kc_89_4 rfl rfl ?_
        refine xi_bipush (pc' := 7) (v := 6) kc_89_5 rfl rfl ?_
        by_cases c16 : 6 ≤ u7.toInt
        · refine xi_cmt (pc' := 14) kc_89_7 rfl (xc_ge_t (X := u7.toInt) (Y := 6) rfl (by decide) (by omega)) ?_
          refine xi_iconst (pc' := 15) (v := 0) kc_89_14 rfl rfl ?_
          refine xi_ireturn kc_89_15 mr_89 rfl ?_
          show xw J ov (d + 1) 105 (7, [(0, .ref pt6)], [.int 0], h) _
          refine xi_ireturn kc_105_7 mr_105 rfl ?_
          show xw J ov (d + 2) 191 (20, [(0, .ref 1), (1, .int x1), (2, .int x2)], [.int 0, .int x1], h) _
          refine xi_ift (pc' := 27) kc_191_20 rfl rfl ?_
          refine xi_iconst (pc' := 28) (v := 0) kc_191_27 rfl rfl ?_
          refine xcps2 (α := Int32) (x1 + 0) (fun v17 ev17 => ?_)
          have zv17 : v17.toInt = x1.toInt := by rw [← ev17]; exact (xz_add (X := x1.toInt) (Y := 0) rfl (by decide) (by omega) (by omega)).trans (by omega)
          refine xi_iadd (pc' := 29) (v := v17) kc_191_28 rfl ev17 ?_
          refine xi_istore_n (pc' := 30) (lv' := [(1, .int v17), (0, .ref 1), (2, .int x2)]) kc_191_29 rfl rfl (xm_lt ml_191 rfl) ?_
          refine xcps2 (α := Int32) (x2 + 1) (fun v18 ev18 => ?_)
          have zv18 : v18.toInt = (x2.toInt + 1) := by rw [← ev18]; exact (xz_add (X := x2.toInt) (Y := 1) rfl (by decide) (by omega) (by omega)).trans (by omega)
          refine xi_iinc (pc' := 33) (x := x2) (v := v18) (lv' := [(2, .int v18), (1, .int v17), (0, .ref 1)]) kc_191_30 rfl rfl ev18 rfl (xm_lt ml_191 rfl) ?_
          refine xi_goto (pc' := 4) kc_191_33 rfl ?_
          refine xw_lv (b := [(0, .ref 1), (1, .int v17), (2, .int v18)]) (lvS_cons (lvS_cons (lvS_cons (lvS_nil (show ([2, 1, 0] : List Nat).Nodup by decide)) rfl) rfl) rfl) ?_
          exact i0 v17 v18 h (by omega) K (by omega)
        · refine xi_cmf (pc' := 10) kc_89_7 rfl (xc_ge_f (X := u7.toInt) (Y := 6) rfl (by decide) (by omega)) ?_
          refine xi_iconst (pc' := 11) (v := 1) kc_89_10 rfl rfl ?_
          refine xi_goto (pc' := 15) kc_89_11 rfl ?_
          refine xi_ireturn kc_89_15 mr_89 rfl ?_
          show xw J ov (d + 1) 105 (7, [(0, .ref pt6)], [.int 1], h) _
          refine xi_ireturn kc_105_7 mr_105 rfl ?_
          show xw J ov (d + 2) 191 (20, [(0, .ref 1), (1, .int x1), (2, .int x2)], [.int 1, .int x1], h) _
          refine xi_iff (pc' := 23) kc_191_20 rfl rfl ?_
          refine xi_iconst (pc' := 24) (v := 1) kc_191_23 rfl rfl ?_
          refine xi_goto (pc' := 28) kc_191_24 rfl ?_
          refine xcps2 (α := Int32) ((x1 : Int32) + 1) (fun v19 ev19 => ?_)
          have rv19 := xc_rng v19
          refine xi_iadd (pc' := 29) (v := v19) kc_191_28 rfl ev19 ?_
          refine xi_istore_n (pc' := 30) (lv' := [(1, .int v19), (0, .ref 1), (2, .int x2)]) kc_191_29 rfl rfl (xm_lt ml_191 rfl) ?_
          refine xcps2 (α := Int32) (x2 + 1) (fun v20 ev20 => ?_)
          have zv20 : v20.toInt = (x2.toInt + 1) := by rw [← ev20]; exact (xz_add (X := x2.toInt) (Y := 1) rfl (by decide) (by omega) (by omega)).trans (by omega)
          refine xi_iinc (pc' := 33) (x := x2) (v := v20) (lv' := [(2, .int v20), (1, .int v19), (0, .ref 1)]) kc_191_30 rfl rfl ev20 rfl (xm_lt ml_191 rfl) ?_
          refine xi_goto (pc' := 4) kc_191_33 rfl ?_
          refine xw_lv (b := [(0, .ref 1), (1, .int v19), (2, .int v20)]) (lvS_cons (lvS_cons (lvS_cons (lvS_nil (show ([2, 1, 0] : List Nat).Nodup by decide)) rfl) rfl) rfl) ?_
          exact i0 v19 v20 h (by omega) K (by omega)
set_option maxHeartbeats 4000000 in
theorem mt_191_0 {J : xe_J} {ov : List (List Int32)} (hJ : ∀ d mj as h, mj ≠ xe_loff → J d mj as h = none) (hov1 : ov[1]? = some [10, 0, 0, 0, 0, 0]) (hov2 : ov[2]? = some [99, 30, 50, 50, 1, 99999]) {d : Nat} {Q : Option Value → xe_H → Prop} {h : xe_H} (T : xt h) (kk : (∀ (r : Int32) (h' : xe_H), xk [(0, 9), (115, 1), (83, 0), (29, 0), (31, 0), (33, 0), (35, 0), (37, 0), (39, 0), (41, 0), (43, 0), (45, 0), (47, 0), (49, 0), (51, 0), (125, 0), (66, 8), (115, 18), (71, 0), (132, 0)] h h' → Q (some (.int r)) h')) : xw J ov (d + 2) 191 (0, [(0, .ref 1)], [], h) Q := by
  have K : xk [(0, 9), (115, 1), (83, 0), (29, 0), (31, 0), (33, 0), (35, 0), (37, 0), (39, 0), (41, 0), (43, 0), (45, 0), (47, 0), (49, 0), (51, 0), (125, 0), (66, 8), (115, 18), (71, 0), (132, 0)] h h := xk_re T
  refine xi_iconst (pc' := 1) (v := 0) kc_191_0 rfl rfl ?_
  refine xi_istore_n (pc' := 2) (lv' := [(1, .int 0), (0, .ref 1)]) kc_191_1 rfl rfl (xm_lt ml_191 rfl) ?_
  refine xi_iconst (pc' := 3) (v := 0) kc_191_2 rfl rfl ?_
  refine xi_istore_n (pc' := 4) (lv' := [(2, .int 0), (1, .int 0), (0, .ref 1)]) kc_191_3 rfl rfl (xm_lt ml_191 rfl) ?_
  have zc0 : (0 : Int32).toInt = 0 := by decide
  refine xw_lv (b := [(0, .ref 1), (1, .int 0), (2, .int 0)]) (lvS_cons (lvS_cons (lvS_cons (lvS_nil (show ([2, 1, 0] : List Nat).Nodup by decide)) rfl) rfl) rfl) ?_
  exact (lp_191_0 hJ hov1 hov2 (d := d) (hb := h) (fun r9 h9 K9 => kk r9 h9 (xk_tr K K9 rfl)) 13) 0 0 h (by omega) (xk_re K.1) (by omega)
set_option maxHeartbeats 4000000 in
theorem lp_192_0 {J : xe_J} {ov : List (List Int32)} (hJ : ∀ d mj as h, mj ≠ xe_loff → J d mj as h = none) (hov1 : ov[1]? = some [10, 0, 0, 0, 0, 0]) (hov2 : ov[2]? = some [99, 30, 50, 50, 1, 99999]) {d : Nat} {Q : Option Value → xe_H → Prop} {hb : xe_H} (kk : (∀ (r : Int32) (h' : xe_H), xk [(0, 9), (115, 1), (83, 0), (29, 0), (31, 0), (33, 0), (35, 0), (37, 0), (39, 0), (41, 0), (43, 0), (45, 0), (47, 0), (49, 0), (51, 0), (125, 0), (66, 8), (115, 18), (71, 0), (132, 0)] hb h' → Q (some (.int r)) h')) : ∀ m : Nat, (∀ (x1 : Int32) (x2 : Int32) (h : xe_H), (0 ≤ x2.toInt ∧ x2.toInt ≤ 8) → xk [(0, 9), (115, 1), (83, 0), (29, 0), (31, 0), (33, 0), (35, 0), (37, 0), (39, 0), (41, 0), (43, 0), (45, 0), (47, 0), (49, 0), (51, 0), (125, 0), (66, 8), (115, 18), (71, 0), (132, 0)] hb h → (-1) * x2.toInt + 8 < (m : Int) → xw J ov (d + 1) 192 (4, [(0, .ref 75), (1, .int x1), (2, .int x2)], [], h) Q) := by
  intro m
  induction m with
  | zero =>
    intro x1 x2 h b2 K hm; have rx1 := xc_rng x1; exfalso; omega
  | succ m ih =>
    have i0 := ih
    intro x1 x2 h b2 K hm
    have rx1 := xc_rng x1
    refine xi_iload_n (pc' := 5) (x := x2) kc_192_4 rfl rfl ?_
    refine xi_aload_n (pc' := 6) (x := 75) kc_192_5 rfl rfl ?_
    refine xp_75 K.1 (fun u1 bu1 A2 => ?_)
    refine xi_getfield (pc' := 9) (v := .int u1) kc_192_6 rfl rfl rfl A2 rfl ?_
    by_cases c3 : u1.toInt ≤ x2.toInt
    · refine xi_cmt (pc' := 41) kc_192_9 rfl (xc_ge_t (X := x2.toInt) (Y := u1.toInt) rfl rfl (by omega)) ?_
      refine xi_iload_n (pc' := 42) (x := x1) kc_192_41 rfl rfl ?_
      refine xi_ireturn kc_192_42 mr_192 rfl ?_
      exact kk x1 h K
    · refine xi_cmf (pc' := 12) kc_192_9 rfl (xc_ge_f (X := x2.toInt) (Y := u1.toInt) rfl rfl (by omega)) ?_
      refine xi_iload_n (pc' := 13) (x := x2) kc_192_12 rfl rfl ?_
      refine xi_bipush (pc' := 15) (v := 8) kc_192_13 rfl rfl ?_
      refine xi_cmf (pc' := 18) kc_192_15 rfl (xc_ge_f (X := x2.toInt) (Y := 8) rfl (by decide) (by omega)) ?_
      refine xi_iload_n (pc' := 19) (x := x1) kc_192_18 rfl rfl ?_
      refine xi_aload_n (pc' := 20) (x := 75) kc_192_19 rfl rfl ?_
      refine xi_getfield (pc' := 23) (v := .ref 79) kc_192_20 rfl rfl rfl A2 rfl ?_
      refine xi_iload_n (pc' := 24) (x := x2) kc_192_23 rfl rfl ?_
      refine xcps4 (xk_arr K.1 xD_79) (fun y4 A4 hy4 ry4 => ?_)
      refine xcps4 (xj_get hy4 ry4 (i := x2) (by omega) (by omega)) (fun v5 ev5 bv5 dv5 => ?_)
      refine xi_iaload (pc' := 25) (v := v5) kc_192_24 rfl A4 (by decide) rfl (xi_in (by omega) (by rw [hy4]; omega)) ev5 ?_
      by_cases c6 : v5.toInt = 0
      · refine xi_iff (pc' := 28) kc_192_25 rfl (xc_ne_f (X := v5.toInt) (Y := 0) rfl (by decide) (by omega)) ?_
        refine xi_iconst (pc' := 29) (v := 0) kc_192_28 rfl rfl ?_
        refine xi_goto (pc' := 33) kc_192_29 rfl ?_
        refine xcps2 (α := Int32) (x1 + 0) (fun v7 ev7 => ?_)
        have zv7 : v7.toInt = x1.toInt := by rw [← ev7]; exact (xz_add (X := x1.toInt) (Y := 0) rfl (by decide) (by omega) (by omega)).trans (by omega)
        refine xi_iadd (pc' := 34) (v := v7) kc_192_33 rfl ev7 ?_
        refine xi_istore_n (pc' := 35) (lv' := [(1, .int v7), (0, .ref 75), (2, .int x2)]) kc_192_34 rfl rfl (xm_lt ml_192 rfl) ?_
        refine xcps2 (α := Int32) (x2 + 1) (fun v8 ev8 => ?_)
        have zv8 : v8.toInt = (x2.toInt + 1) := by rw [← ev8]; exact (xz_add (X := x2.toInt) (Y := 1) rfl (by decide) (by omega) (by omega)).trans (by omega)
        refine xi_iinc (pc' := 38) (x := x2) (v := v8) (lv' := [(2, .int v8), (1, .int v7), (0, .ref 75)]) kc_192_35 rfl rfl ev8 rfl (xm_lt ml_192 rfl) ?_
        refine xi_goto (pc' := 4) kc_192_38 rfl ?_
        refine xw_lv (b := [(0, .ref 75), (1, .int v7), (2, .int v8)]) (lvS_cons (lvS_cons (lvS_cons (lvS_nil (show ([2, 1, 0] : List Nat).Nodup by decide)) rfl) rfl) rfl) ?_
        exact i0 v7 v8 h (by omega) K (by omega)
      · refine xi_ift (pc' := 32) kc_192_25 rfl (xc_ne_t (X := v5.toInt) (Y := 0) rfl (by decide) (by omega)) ?_
        refine xi_iconst (pc' := 33) (v := 1) kc_192_32 rfl rfl ?_
        refine xcps2 (α := Int32) ((x1 : Int32) + 1) (fun v9 ev9 => ?_)
        have rv9 := xc_rng v9
        refine xi_iadd (pc' := 34) (v := v9) kc_192_33 rfl ev9 ?_
        refine xi_istore_n (pc' := 35) (lv' := [(1, .int v9), (0, .ref 75), (2, .int x2)]) kc_192_34 rfl rfl (xm_lt ml_192 rfl) ?_
        refine xcps2 (α := Int32) (x2 + 1) (fun v10 ev10 => ?_)
        have zv10 : v10.toInt = (x2.toInt + 1) := by rw [← ev10]; exact (xz_add (X := x2.toInt) (Y := 1) rfl (by decide) (by omega) (by omega)).trans (by omega)
        refine xi_iinc (pc' := 38) (x := x2) (v := v10) (lv' := [(2, .int v10), (1, .int v9), (0, .ref 75)]) kc_192_35 rfl rfl ev10 rfl (xm_lt ml_192 rfl) ?_
        refine xi_goto (pc' := 4) kc_192_38 rfl ?_
        refine xw_lv (b := [(0, .ref 75), (1, .int v9), (2, .int v10)]) (lvS_cons (lvS_cons (lvS_cons (lvS_nil (show ([2, 1, 0] : List Nat).Nodup by decide)) rfl) rfl) rfl) ?_
        exact i0 v9 v10 h (by omega) K (by omega)
set_option maxHeartbeats 4000000 in
theorem mt_192_0 {J : xe_J} {ov : List (List Int32)} (hJ : ∀ d mj as h, mj ≠ xe_loff → J d mj as h = none) (hov1 : ov[1]? = some [10, 0, 0, 0, 0, 0]) (hov2 : ov[2]? = some [99, 30, 50, 50, 1, 99999]) {d : Nat} {Q : Option Value → xe_H → Prop} {h : xe_H} (T : xt h) (kk : (∀ (r : Int32) (h' : xe_H), xk [(0, 9), (115, 1), (83, 0), (29, 0), (31, 0), (33, 0), (35, 0), (37, 0), (39, 0), (41, 0), (43, 0), (45, 0), (47, 0), (49, 0), (51, 0), (125, 0), (66, 8), (115, 18), (71, 0), (132, 0)] h h' → Q (some (.int r)) h')) : xw J ov (d + 1) 192 (0, [(0, .ref 75)], [], h) Q := by
  have K : xk [(0, 9), (115, 1), (83, 0), (29, 0), (31, 0), (33, 0), (35, 0), (37, 0), (39, 0), (41, 0), (43, 0), (45, 0), (47, 0), (49, 0), (51, 0), (125, 0), (66, 8), (115, 18), (71, 0), (132, 0)] h h := xk_re T
  refine xi_iconst (pc' := 1) (v := 0) kc_192_0 rfl rfl ?_
  refine xi_istore_n (pc' := 2) (lv' := [(1, .int 0), (0, .ref 75)]) kc_192_1 rfl rfl (xm_lt ml_192 rfl) ?_
  refine xi_iconst (pc' := 3) (v := 0) kc_192_2 rfl rfl ?_
  refine xi_istore_n (pc' := 4) (lv' := [(2, .int 0), (1, .int 0), (0, .ref 75)]) kc_192_3 rfl rfl (xm_lt ml_192 rfl) ?_
  have zc0 : (0 : Int32).toInt = 0 := by decide
  refine xw_lv (b := [(0, .ref 75), (1, .int 0), (2, .int 0)]) (lvS_cons (lvS_cons (lvS_cons (lvS_nil (show ([2, 1, 0] : List Nat).Nodup by decide)) rfl) rfl) rfl) ?_
  exact (lp_192_0 hJ hov1 hov2 (d := d) (hb := h) (fun r9 h9 K9 => kk r9 h9 (xk_tr K K9 rfl)) 9) 0 0 h (by omega) (xk_re K.1) (by omega)
set_option maxHeartbeats 4000000 in
theorem mt_190_0 {J : xe_J} {ov : List (List Int32)} (hJ : ∀ d mj as h, mj ≠ xe_loff → J d mj as h = none) (hov1 : ov[1]? = some [10, 0, 0, 0, 0, 0]) (hov2 : ov[2]? = some [99, 30, 50, 50, 1, 99999]) {d : Nat} {Q : Option Value → xe_H → Prop} {h : xe_H} {x1 : Int32} (T : xt h) (kk : (∀ (r : Int32) (h' : xe_H), xk [(0, 9), (115, 1), (83, 0), (29, 0), (31, 0), (33, 0), (35, 0), (37, 0), (39, 0), (41, 0), (43, 0), (45, 0), (47, 0), (49, 0), (51, 0), (125, 0), (66, 8), (115, 18), (71, 0), (132, 0)] h h' → Q (some (.int r)) h')) : xw J ov (d + 3) 190 (0, [(0, .ref 0), (1, .int x1)], [], h) Q := by
  have K : xk [(0, 9), (115, 1), (83, 0), (29, 0), (31, 0), (33, 0), (35, 0), (37, 0), (39, 0), (41, 0), (43, 0), (45, 0), (47, 0), (49, 0), (51, 0), (125, 0), (66, 8), (115, 18), (71, 0), (132, 0)] h h := xk_re T
  have rx1 := xc_rng x1
  refine xi_iload_n (pc' := 1) (x := x1) kc_190_0 rfl rfl ?_
  by_cases c1 : x1.toInt = 0
  · refine xi_tsi (pc' := 56) (z := 0) kc_190_1 (by omega) rfl (by decide) ?_
    refine xi_aload_n (pc' := 57) (x := 0) kc_190_56 rfl rfl ?_
    refine xp_0 K.1 (fun u2 u3 bu2 bu3 A4 => ?_)
    refine xi_getfield (pc' := 60) (v := .int u3) kc_190_57 rfl rfl rfl A4 rfl ?_
    refine xi_ireturn kc_190_60 mr_190 rfl ?_
    exact kk u3 h K
  by_cases c5 : x1.toInt = 1
  · refine xi_tsi (pc' := 61) (z := 1) kc_190_1 (by omega) rfl (by decide) ?_
    refine xi_aload_n (pc' := 62) (x := 0) kc_190_61 rfl rfl ?_
    refine xp_0 K.1 (fun u6 u7 bu6 bu7 A8 => ?_)
    refine xi_getfield (pc' := 65) (v := .ref 1) kc_190_62 rfl rfl rfl A8 rfl ?_
    refine xp_1 K.1 (fun u9 u10 bu9 bu10 A11 => ?_)
    refine xi_virtual (mj := 191) (as := []) (st1 := []) (lv0 := [(0, .ref 1)]) kc_190_65 rfl rfl rfl rfl rfl A11 (Nat.le_of_ble_eq_true rfl) (hJ _ _ _ _ (by decide)) (xm_le ml_191 rfl) rfl ?_
    refine mt_191_0 hJ hov1 hov2 (d := d)  K.1 (fun r12 hh13 K14 => ?_)
    have br12 := xc_rng r12
    have K15 := xk_tr K K14 rfl
    refine xp_0 K15.1 (fun u16 u17 bu16 bu17 A18 => ?_)
    have e19 : u7 = u17 := xk_eqi (q := 9) K14 rfl A8 A18 rfl rfl
    subst e19
    show xw J ov (d + 3) 190 (68, [(0, .ref 0), (1, .int x1)], [.int r12], hh13) _
    refine xi_ireturn kc_190_68 mr_190 rfl ?_
    exact kk r12 hh13 K15
  by_cases c20 : x1.toInt = 2
  · refine xi_tsi (pc' := 69) (z := 2) kc_190_1 (by omega) rfl (by decide) ?_
    refine xi_aload_n (pc' := 70) (x := 0) kc_190_69 rfl rfl ?_
    refine xp_0 K.1 (fun u21 u22 bu21 bu22 A23 => ?_)
    refine xi_getfield (pc' := 73) (v := .ref 66) kc_190_70 rfl rfl rfl A23 rfl ?_
    refine xp_66 K.1 (fun u25 wl24 bu25 A26 => ?_)
    refine xi_getfield (pc' := 76) (v := .int u25) kc_190_73 rfl rfl rfl A26 rfl ?_
    refine xi_ireturn kc_190_76 mr_190 rfl ?_
    exact kk u25 h K
  by_cases c27 : x1.toInt = 3
  · refine xi_tsi (pc' := 77) (z := 3) kc_190_1 (by omega) rfl (by decide) ?_
    refine xi_aload_n (pc' := 78) (x := 0) kc_190_77 rfl rfl ?_
    refine xp_0 K.1 (fun u28 u29 bu28 bu29 A30 => ?_)
    refine xi_getfield (pc' := 81) (v := .ref 1) kc_190_78 rfl rfl rfl A30 rfl ?_
    refine xp_1 K.1 (fun u31 u32 bu31 bu32 A33 => ?_)
    refine xi_getfield (pc' := 84) (v := .int u31) kc_190_81 rfl rfl rfl A33 rfl ?_
    refine xi_ireturn kc_190_84 mr_190 rfl ?_
    exact kk u31 h K
  by_cases c34 : x1.toInt = 4
  · refine xi_tsi (pc' := 85) (z := 4) kc_190_1 (by omega) rfl (by decide) ?_
    refine xi_aload_n (pc' := 86) (x := 0) kc_190_85 rfl rfl ?_
    refine xp_0 K.1 (fun u35 u36 bu35 bu36 A37 => ?_)
    refine xi_getfield (pc' := 89) (v := .ref 63) kc_190_86 rfl rfl rfl A37 rfl ?_
    refine xp_63 K.1 (fun u38 u39 bu38 bu39 A40 => ?_)
    refine xi_getfield (pc' := 92) (v := .int u38) kc_190_89 rfl rfl rfl A40 rfl ?_
    refine xi_static (mj := 4) (as := [.int u38]) (st1 := []) (lv0 := [(0, .int u38)]) kc_190_92 rfl rfl (Nat.le_of_ble_eq_true rfl) rfl rfl (Nat.le_of_ble_eq_true rfl) (hJ _ _ _ _ (by decide)) (xm_le ml_4 rfl) rfl ?_
    refine mt_4_0 hJ hov1 hov2 (d := d + 1) (x0 := u38) K.1 (fun r41 hh42 K43 => ?_)
    have br41 := xc_rng r41
    have K44 := xk_tr K K43 rfl
    refine xp_0 K44.1 (fun u45 u46 bu45 bu46 A47 => ?_)
    have e48 : u36 = u46 := xk_eqi (q := 9) K43 rfl A37 A47 rfl rfl
    subst e48
    show xw J ov (d + 3) 190 (95, [(0, .ref 0), (1, .int x1)], [.int r41], hh42) _
    refine xi_ireturn kc_190_95 mr_190 rfl ?_
    exact kk r41 hh42 K44
  by_cases c49 : x1.toInt = 5
  · refine xi_tsi (pc' := 96) (z := 5) kc_190_1 (by omega) rfl (by decide) ?_
    refine xi_aload_n (pc' := 97) (x := 0) kc_190_96 rfl rfl ?_
    refine xp_0 K.1 (fun u50 u51 bu50 bu51 A52 => ?_)
    refine xi_getfield (pc' := 100) (v := .ref 75) kc_190_97 rfl rfl rfl A52 rfl ?_
    refine xp_75 K.1 (fun u53 bu53 A54 => ?_)
    refine xi_getfield (pc' := 103) (v := .int u53) kc_190_100 rfl rfl rfl A54 rfl ?_
    refine xi_ireturn kc_190_103 mr_190 rfl ?_
    exact kk u53 h K
  by_cases c55 : x1.toInt = 6
  · refine xi_tsi (pc' := 104) (z := 6) kc_190_1 (by omega) rfl (by decide) ?_
    refine xi_aload_n (pc' := 105) (x := 0) kc_190_104 rfl rfl ?_
    refine xp_0 K.1 (fun u56 u57 bu56 bu57 A58 => ?_)
    refine xi_getfield (pc' := 108) (v := .ref 75) kc_190_105 rfl rfl rfl A58 rfl ?_
    refine xp_75 K.1 (fun u59 bu59 A60 => ?_)
    refine xi_virtual (mj := 192) (as := []) (st1 := []) (lv0 := [(0, .ref 75)]) kc_190_108 rfl rfl rfl rfl rfl A60 (Nat.le_of_ble_eq_true rfl) (hJ _ _ _ _ (by decide)) (xm_le ml_192 rfl) rfl ?_
    refine mt_192_0 hJ hov1 hov2 (d := d + 1)  K.1 (fun r61 hh62 K63 => ?_)
    have br61 := xc_rng r61
    have K64 := xk_tr K K63 rfl
    refine xp_0 K64.1 (fun u65 u66 bu65 bu66 A67 => ?_)
    have e68 : u57 = u66 := xk_eqi (q := 9) K63 rfl A58 A67 rfl rfl
    subst e68
    show xw J ov (d + 3) 190 (111, [(0, .ref 0), (1, .int x1)], [.int r61], hh62) _
    refine xi_ireturn kc_190_111 mr_190 rfl ?_
    exact kk r61 hh62 K64
  by_cases c69 : x1.toInt = 7
  · refine xi_tsi (pc' := 112) (z := 7) kc_190_1 (by omega) rfl (by decide) ?_
    refine xi_aload_n (pc' := 113) (x := 0) kc_190_112 rfl rfl ?_
    refine xp_0 K.1 (fun u70 u71 bu70 bu71 A72 => ?_)
    refine xi_getfield (pc' := 116) (v := .int u70) kc_190_113 rfl rfl rfl A72 rfl ?_
    refine xi_ireturn kc_190_116 mr_190 rfl ?_
    exact kk u70 h K
  by_cases c73 : x1.toInt = 8
  · refine xi_tsi (pc' := 117) (z := 8) kc_190_1 (by omega) rfl (by decide) ?_
    refine xi_aload_n (pc' := 118) (x := 0) kc_190_117 rfl rfl ?_
    refine xp_0 K.1 (fun u74 u75 bu74 bu75 A76 => ?_)
    refine xi_getfield (pc' := 121) (v := .ref 85) kc_190_118 rfl rfl rfl A76 rfl ?_
    refine xp_85 K.1 (fun u77 u78 bu77 bu78 A79 => ?_)
    refine xi_getfield (pc' := 124) (v := .int u78) kc_190_121 rfl rfl rfl A79 rfl ?_
    refine xi_ireturn kc_190_124 mr_190 rfl ?_
    exact kk u78 h K
  by_cases c80 : x1.toInt = 9
  · refine xi_tsi (pc' := 125) (z := 9) kc_190_1 (by omega) rfl (by decide) ?_
    refine xi_aload_n (pc' := 126) (x := 0) kc_190_125 rfl rfl ?_
    refine xp_0 K.1 (fun u81 u82 bu81 bu82 A83 => ?_)
    refine xi_getfield (pc' := 129) (v := .ref 80) kc_190_126 rfl rfl rfl A83 rfl ?_
    have A84 := xq_80 K.1
    refine xi_virtual (mj := 173) (as := []) (st1 := []) (lv0 := [(0, .ref 80)]) kc_190_129 rfl rfl rfl rfl rfl A84 (Nat.le_of_ble_eq_true rfl) (hJ _ _ _ _ (by decide)) (xm_le ml_173 rfl) rfl ?_
    refine mt_173_0 hJ hov1 hov2 (d := d + 1)  K.1 (fun r85 hh86 K87 => ?_)
    have br85 := xc_rng r85
    have K88 := xk_tr K K87 rfl
    refine xp_0 K88.1 (fun u89 u90 bu89 bu90 A91 => ?_)
    have e92 : u82 = u90 := xk_eqi (q := 9) K87 rfl A83 A91 rfl rfl
    subst e92
    show xw J ov (d + 3) 190 (132, [(0, .ref 0), (1, .int x1)], [.int r85], hh86) _
    refine xi_ireturn kc_190_132 mr_190 rfl ?_
    exact kk r85 hh86 K88
  refine xi_tsd (pc' := 133) kc_190_1 rfl (by omega) ?_
  refine xi_iload_n (pc' := 134) (x := x1) kc_190_133 rfl rfl ?_
  refine xi_bipush (pc' := 136) (v := 11) kc_190_134 rfl rfl ?_
  by_cases c93 : x1.toInt < 11
  · refine xi_cmt (pc' := 157) kc_190_136 rfl (xc_lt_t (X := x1.toInt) (Y := 11) rfl (by decide) (by omega)) ?_
    refine xi_bipush (pc' := 159) (v := (-9)) kc_190_157 rfl rfl ?_
    refine xi_ireturn kc_190_159 mr_190 rfl ?_
    have zcm9 : ((-9) : Int32).toInt = (-9) := by decide
    exact kk (-9) h K
  · refine xi_cmf (pc' := 139) kc_190_136 rfl (xc_lt_f (X := x1.toInt) (Y := 11) rfl (by decide) (by omega)) ?_
    refine xi_iload_n (pc' := 140) (x := x1) kc_190_139 rfl rfl ?_
    refine xi_bipush (pc' := 142) (v := 16) kc_190_140 rfl rfl ?_
    by_cases c94 : 16 < x1.toInt
    · refine xi_cmt (pc' := 157) kc_190_142 rfl (xc_gt_t (X := x1.toInt) (Y := 16) rfl (by decide) (by omega)) ?_
      refine xi_bipush (pc' := 159) (v := (-9)) kc_190_157 rfl rfl ?_
      refine xi_ireturn kc_190_159 mr_190 rfl ?_
      have zcm9 : ((-9) : Int32).toInt = (-9) := by decide
      exact kk (-9) h K
    · refine xi_cmf (pc' := 145) kc_190_142 rfl (xc_gt_f (X := x1.toInt) (Y := 16) rfl (by decide) (by omega)) ?_
      refine xi_aload_n (pc' := 146) (x := 0) kc_190_145 rfl rfl ?_
      refine xp_0 K.1 (fun u95 u96 bu95 bu96 A97 => ?_)
      refine xi_getfield (pc' := 149) (v := .ref 94) kc_190_146 rfl rfl rfl A97 rfl ?_
      refine xi_iload_n (pc' := 150) (x := x1) kc_190_149 rfl rfl ?_
      refine xi_bipush (pc' := 152) (v := 10) kc_190_150 rfl rfl ?_
      refine xcps2 (α := Int32) (x1 - 10) (fun v98 ev98 => ?_)
      have zv98 : v98.toInt = (x1.toInt + (-10)) := by rw [← ev98]; exact (xz_sub (X := x1.toInt) (Y := 10) rfl (by decide) (by omega) (by omega)).trans (by omega)
      refine xi_isub (pc' := 153) (v := v98) kc_190_152 rfl ev98 ?_
      refine xcps4 (xk_arr K.1 xD_94) (fun y99 A99 hy99 ry99 => ?_)
      refine xcps4 (xj_get hy99 ry99 (i := v98) (by rw [zv98]; omega) (by rw [zv98]; omega)) (fun v100 ev100 bv100 dv100 => ?_)
      refine xi_iaload (pc' := 154) (v := v100) kc_190_153 rfl A99 (by decide) rfl (xi_in (by rw [zv98]; omega) (by rw [hy99]; rw [zv98]; omega)) ev100 ?_
      refine xi_goto (pc' := 159) kc_190_154 rfl ?_
      refine xi_ireturn kc_190_159 mr_190 rfl ?_
      exact kk v100 h K
set_option maxHeartbeats 4000000 in
theorem mt_22_0 {J : xe_J} {ov : List (List Int32)} (hJ : ∀ d mj as h, mj ≠ xe_loff → J d mj as h = none) (hov1 : ov[1]? = some [10, 0, 0, 0, 0, 0]) (hov2 : ov[2]? = some [99, 30, 50, 50, 1, 99999]) {d : Nat} {Q : Option Value → xe_H → Prop} {h : xe_H} {x0 : Int32} (T : xt h) (kk : (∀ (r : Int32) (h' : xe_H), ((-53687087) ≤ r.toInt ∧ r.toInt ≤ 1127428920) → xk [(0, 9), (115, 1), (83, 0), (29, 0), (31, 0), (33, 0), (35, 0), (37, 0), (39, 0), (41, 0), (43, 0), (45, 0), (47, 0), (49, 0), (51, 0), (125, 0), (66, 8), (115, 18), (71, 0), (132, 0)] h h' → Q (some (.int r)) h')) : xw J ov (d + 1) 22 (0, [(0, .int x0)], [], h) Q := by
  have K : xk [(0, 9), (115, 1), (83, 0), (29, 0), (31, 0), (33, 0), (35, 0), (37, 0), (39, 0), (41, 0), (43, 0), (45, 0), (47, 0), (49, 0), (51, 0), (125, 0), (66, 8), (115, 18), (71, 0), (132, 0)] h h := xk_re T
  have rx0 := xc_rng x0
  refine xi_iload_n (pc' := 1) (x := x0) kc_22_0 rfl rfl ?_
  by_cases c1 : x0.toInt < 0
  · refine xi_ift (pc' := 17) kc_22_1 rfl (xc_lt_t (X := x0.toInt) (Y := 0) rfl (by decide) (by omega)) ?_
    refine xi_iconst (pc' := 18) (v := 5) kc_22_17 rfl rfl ?_
    refine xi_iload_n (pc' := 19) (x := x0) kc_22_18 rfl rfl ?_
    refine xcps2 (α := Int32) (-x0) (fun v2 ev2 => ?_)
    have rv2 := xc_rng v2
    refine xi_ineg (pc' := 20) (v := v2) kc_22_19 rfl ev2 ?_
    refine xi_iconst (pc' := 21) (v := 5) kc_22_20 rfl rfl ?_
    refine xcps2 (α := Int32) (v2 / 5) (fun v3 ev3 => ?_)
    have dv3 : 5 * v3.toInt ≤ v2.toInt + 4 ∧ v2.toInt ≤ 5 * v3.toInt + 4 := by rw [← ev3]; exact xz_div (X := v2.toInt) (Y := 5) rfl (by decide) (by decide)
    have bv3 : -429496730 ≤ v3.toInt ∧ v3.toInt ≤ 429496730 := by omega
    refine xi_idiv (pc' := 22) (v := v3) kc_22_21 rfl ev3 (by decide) ?_
    refine xcps2 (α := Int32) (5 - v3) (fun v4 ev4 => ?_)
    have zv4 : v4.toInt = ((-1) * v3.toInt + 5) := by rw [← ev4]; exact (xz_sub (X := 5) (Y := v3.toInt) (by decide) rfl (by omega) (by omega)).trans (by omega)
    refine xi_isub (pc' := 23) (v := v4) kc_22_22 rfl ev4 ?_
    refine xi_istore_n (pc' := 24) (lv' := [(1, .int v4), (0, .int x0)]) kc_22_23 rfl rfl (xm_lt ml_22 rfl) ?_
    refine xi_iload_n (pc' := 25) (x := v4) kc_22_24 rfl rfl ?_
    refine xi_iconst (pc' := 26) (v := 1) kc_22_25 rfl rfl ?_
    by_cases c5 : 1 ≤ ((-1) * v3.toInt + 5)
    · refine xi_cmt (pc' := 33) kc_22_26 rfl (xc_ge_t (X := ((-1) * v3.toInt + 5)) (Y := 1) zv4 (by decide) (by omega)) ?_
      refine xi_iload_n (pc' := 34) (x := v4) kc_22_33 rfl rfl ?_
      refine xi_ireturn kc_22_34 mr_22 rfl ?_
      exact kk v4 h (by omega) K
    · refine xi_cmf (pc' := 29) kc_22_26 rfl (xc_ge_f (X := ((-1) * v3.toInt + 5)) (Y := 1) zv4 (by decide) (by omega)) ?_
      refine xi_iconst (pc' := 30) (v := 1) kc_22_29 rfl rfl ?_
      refine xi_goto (pc' := 34) kc_22_30 rfl ?_
      refine xi_ireturn kc_22_34 mr_22 rfl ?_
      have zc1 : (1 : Int32).toInt = 1 := by decide
      exact kk 1 h (by omega) K
  · refine xi_iff (pc' := 4) kc_22_1 rfl (xc_lt_f (X := x0.toInt) (Y := 0) rfl (by decide) (by omega)) ?_
    refine xi_iconst (pc' := 5) (v := 5) kc_22_4 rfl rfl ?_
    refine xi_iload_n (pc' := 6) (x := x0) kc_22_5 rfl rfl ?_
    refine xi_iconst (pc' := 7) (v := 2) kc_22_6 rfl rfl ?_
    refine xcps2 (α := Int32) (x0 / 2) (fun v6 ev6 => ?_)
    have dv6 : v6.toInt = x0.toInt / 2 := by rw [← ev6]; exact xz_dive (X := x0.toInt) (Y := 2) rfl (by decide) (by omega) (by decide)
    have bv6 : 0 ≤ v6.toInt ∧ v6.toInt ≤ 1073741823 := by omega
    refine xi_idiv (pc' := 8) (v := v6) kc_22_7 rfl ev6 (by decide) ?_
    refine xcps2 (α := Int32) (5 + v6) (fun v7 ev7 => ?_)
    have zv7 : v7.toInt = (v6.toInt + 5) := by rw [← ev7]; exact (xz_add (X := 5) (Y := v6.toInt) (by decide) rfl (by omega) (by omega)).trans (by omega)
    refine xi_iadd (pc' := 9) (v := v7) kc_22_8 rfl ev7 ?_
    refine xi_iload_n (pc' := 10) (x := x0) kc_22_9 rfl rfl ?_
    refine xi_iload_n (pc' := 11) (x := x0) kc_22_10 rfl rfl ?_
    refine xcps2 (α := Int32) ((x0 : Int32) * x0) (fun v8 ev8 => ?_)
    have rv8 := xc_rng v8
    refine xi_imul (pc' := 12) (v := v8) kc_22_11 rfl ev8 ?_
    refine xi_bipush (pc' := 14) (v := 40) kc_22_12 rfl rfl ?_
    refine xcps2 (α := Int32) (v8 / 40) (fun v9 ev9 => ?_)
    have dv9 : 40 * v9.toInt ≤ v8.toInt + 39 ∧ v8.toInt ≤ 40 * v9.toInt + 39 := by rw [← ev9]; exact xz_div (X := v8.toInt) (Y := 40) rfl (by decide) (by decide)
    have bv9 : -53687092 ≤ v9.toInt ∧ v9.toInt ≤ 53687092 := by omega
    refine xi_idiv (pc' := 15) (v := v9) kc_22_14 rfl ev9 (by decide) ?_
    refine xcps2 (α := Int32) (v7 + v9) (fun v10 ev10 => ?_)
    have zv10 : v10.toInt = (v6.toInt + v9.toInt + 5) := by rw [← ev10]; exact (xz_add (X := (v6.toInt + 5)) (Y := v9.toInt) zv7 rfl (by omega) (by omega)).trans (by omega)
    refine xi_iadd (pc' := 16) (v := v10) kc_22_15 rfl ev10 ?_
    refine xi_ireturn kc_22_16 mr_22 rfl ?_
    exact kk v10 h (by omega) K
set_option maxHeartbeats 4000000 in
theorem mt_21_0 {J : xe_J} {ov : List (List Int32)} (hJ : ∀ d mj as h, mj ≠ xe_loff → J d mj as h = none) (hov1 : ov[1]? = some [10, 0, 0, 0, 0, 0]) (hov2 : ov[2]? = some [99, 30, 50, 50, 1, 99999]) {d : Nat} {Q : Option Value → xe_H → Prop} {h : xe_H} {x1 : Int32} (T : xt h) (kk : (∀ (r : Int32) (h' : xe_H), ((-53687087) ≤ r.toInt ∧ r.toInt ≤ 1127428920) → xk [(0, 9), (115, 1), (83, 0), (29, 0), (31, 0), (33, 0), (35, 0), (37, 0), (39, 0), (41, 0), (43, 0), (45, 0), (47, 0), (49, 0), (51, 0), (125, 0), (66, 8), (115, 18), (71, 0), (132, 0)] h h' → Q (some (.int r)) h')) : xw J ov (d + 2) 21 (0, [(0, .ref 115), (1, .int x1)], [], h) Q := by
  have K : xk [(0, 9), (115, 1), (83, 0), (29, 0), (31, 0), (33, 0), (35, 0), (37, 0), (39, 0), (41, 0), (43, 0), (45, 0), (47, 0), (49, 0), (51, 0), (125, 0), (66, 8), (115, 18), (71, 0), (132, 0)] h h := xk_re T
  have rx1 := xc_rng x1
  refine xi_aload_n (pc' := 1) (x := 115) kc_21_0 rfl rfl ?_
  refine xi_iconst (pc' := 2) (v := 0) kc_21_1 rfl rfl ?_
  refine xp_115 K.1 (fun u1 u2 u3 u4 u5 u6 u7 u8 u9 u10 u11 u12 u13 bu1 bu2 bu3 bu4 bu5 bu6 bu7 bu8 bu9 bu10 bu11 bu12 bu13 A14 => ?_)
  refine xi_putfield (pc' := 5) (fs' := [.int 0, .int u2, .ref 116, .ref 117, .ref 118, .ref 119, .ref 120, .ref 121, .ref 122, .ref 123, .ref 124, .ref 125, .ref 126, .ref 127, .ref 128, .ref 129, .int u3, .ref 130, .int u4, .ref 131, .ref 132, .ref 133, .ref 134, .int u5, .ref 135, .ref 136, .ref 137, .ref 138, .ref 139, .ref 140, .ref 141, .ref 142, .int u6, .int u7, .int u8, .ref 143, .ref 144, .ref 145, .ref 146, .ref 147, .ref 148, .int u9, .ref 149, .ref 150, .ref 151, .int u10, .ref 152, .ref 153, .ref 154, .ref 155, .ref 156, .ref 157, .ref 158, .ref 159, .int u11, .ref 160, .int u12, .ref 161, .ref 162, .ref 163, .ref 164, .int u13, .ref 165, .ref 166]) kc_21_2 rfl rfl rfl A14 rfl rfl rfl (Nat.le_of_ble_eq_true rfl) rfl (fun hh16 eh15 => ?_)
  have K17 := xk_pf (k := 0) (v := 0) K (xk_wf rfl) xD_115 A14 rfl (by first | omega | decide) (by first | omega | decide) eh15 rfl
  refine xi_iload_n (pc' := 6) (x := x1) kc_21_5 rfl rfl ?_
  refine xi_bipush (pc' := 8) (v := (-20)) kc_21_6 rfl rfl ?_
  by_cases c18 : (-20) ≤ x1.toInt
  · refine xi_cmt (pc' := 20) kc_21_8 rfl (xc_ge_t (X := x1.toInt) (Y := (-20)) rfl (by decide) (by omega)) ?_
    refine xi_iload_n (pc' := 21) (x := x1) kc_21_20 rfl rfl ?_
    refine xi_bipush (pc' := 23) (v := 30) kc_21_21 rfl rfl ?_
    by_cases c19 : x1.toInt ≤ 30
    · refine xi_cmt (pc' := 35) kc_21_23 rfl (xc_le_t (X := x1.toInt) (Y := 30) rfl (by decide) (by omega)) ?_
      refine xi_iload_n (pc' := 36) (x := x1) kc_21_35 rfl rfl ?_
      refine xi_static (mj := 22) (as := [.int x1]) (st1 := []) (lv0 := [(0, .int x1)]) kc_21_36 rfl rfl (Nat.le_of_ble_eq_true rfl) rfl rfl (Nat.le_of_ble_eq_true rfl) (hJ _ _ _ _ (by decide)) (xm_le ml_22 rfl) rfl ?_
      refine mt_22_0 hJ hov1 hov2 (d := d) (x0 := x1) K17.1 (fun r20 hh21 br20 K22 => ?_)
      have K23 := xk_tr K17 K22 rfl
      refine xp_115 K23.1 (fun u24 u25 u26 u27 u28 u29 u30 u31 u32 u33 u34 u35 u36 bu24 bu25 bu26 bu27 bu28 bu29 bu30 bu31 bu32 bu33 bu34 bu35 bu36 A37 => ?_)
      have e38 : u2 = u25 := xk_eqi (q := 1) K22 rfl eh15.1 A37 rfl rfl
      subst e38
      have e39 : u4 = u27 := xk_eqi (q := 18) K22 rfl eh15.1 A37 rfl rfl
      subst e39
      show xw J ov (d + 2) 21 (39, [(0, .ref 115), (1, .int x1)], [.int r20], hh21) _
      refine xi_ireturn kc_21_39 mr_21 rfl ?_
      exact kk r20 hh21 (by omega) K23
    · refine xi_cmf (pc' := 26) kc_21_23 rfl (xc_le_f (X := x1.toInt) (Y := 30) rfl (by decide) (by omega)) ?_
      refine xi_aload_n (pc' := 27) (x := 115) kc_21_26 rfl rfl ?_
      refine xi_bipush (pc' := 29) (v := (-6)) kc_21_27 rfl rfl ?_
      refine xi_virtual (mj := 12) (as := [.int (-6)]) (st1 := []) (lv0 := [(0, .ref 115), (1, .int (-6))]) kc_21_29 rfl rfl rfl rfl rfl eh15.1 (Nat.le_of_ble_eq_true rfl) (hJ _ _ _ _ (by decide)) (xm_le ml_12 rfl) rfl ?_
      refine xi_aload_n (pc' := 1) (x := 115) kc_12_0 rfl rfl ?_
      refine xi_getfield (pc' := 4) (v := .ref 140) kc_12_1 rfl rfl rfl eh15.1 rfl ?_
      refine xi_iload_n (pc' := 5) (x := (-6)) kc_12_4 rfl rfl ?_
      refine xi_ineg (pc' := 6) (v := 6) kc_12_5 rfl rfl ?_
      refine xi_dup2 (pc' := 7) kc_12_6 rfl ⟨rfl, rfl⟩ ?_
      refine xcps4 (xk_arr K17.1 xD_140) (fun y40 A40 hy40 ry40 => ?_)
      refine xcps4 (xj_get hy40 ry40 (i := 6) (by decide) (by decide)) (fun v41 ev41 bv41 dv41 => ?_)
      refine xi_iaload (pc' := 8) (v := v41) kc_12_7 rfl A40 (by decide) rfl (xi_in (by decide) (by rw [hy40]; decide)) ev41 ?_
      refine xi_iconst (pc' := 9) (v := 1) kc_12_8 rfl rfl ?_
      refine xcps2 (α := Int32) ((v41 : Int32) + 1) (fun v42 ev42 => ?_)
      have rv42 := xc_rng v42
      refine xi_iadd (pc' := 10) (v := v42) kc_12_9 rfl ev42 ?_
      refine xcps4 (xj_set (v := v42) hy40 ry40 6 (by first | omega | decide) (by first | omega | decide)) (fun y43 s43 hy43 ry43 => ?_)
      refine xi_iastore (pc' := 11) (x' := y43) kc_12_10 rfl A40 rfl (xi_in (by decide) (by rw [hy40]; decide)) s43 (fun hh43 eh43 => ?_)
      have K44 := xk_pa K17 (xk_wa rfl) xD_140 hy43 ry43 eh43
      refine xi_iload_n (pc' := 12) (x := (-6)) kc_12_11 rfl rfl ?_
      refine xi_ireturn kc_12_12 mr_12 rfl ?_
      show xw J ov (d + 2) 21 (32, [(0, .ref 115), (1, .int x1)], [.int (-6)], hh43) _
      refine xi_goto (pc' := 39) kc_21_32 rfl ?_
      refine xi_ireturn kc_21_39 mr_21 rfl ?_
      have zcm6 : ((-6) : Int32).toInt = (-6) := by decide
      exact kk (-6) hh43 (by omega) K44
  · refine xi_cmf (pc' := 11) kc_21_8 rfl (xc_ge_f (X := x1.toInt) (Y := (-20)) rfl (by decide) (by omega)) ?_
    refine xi_aload_n (pc' := 12) (x := 115) kc_21_11 rfl rfl ?_
    refine xi_bipush (pc' := 14) (v := (-4)) kc_21_12 rfl rfl ?_
    refine xi_virtual (mj := 12) (as := [.int (-4)]) (st1 := []) (lv0 := [(0, .ref 115), (1, .int (-4))]) kc_21_14 rfl rfl rfl rfl rfl eh15.1 (Nat.le_of_ble_eq_true rfl) (hJ _ _ _ _ (by decide)) (xm_le ml_12 rfl) rfl ?_
    refine xi_aload_n (pc' := 1) (x := 115) kc_12_0 rfl rfl ?_
    refine xi_getfield (pc' := 4) (v := .ref 140) kc_12_1 rfl rfl rfl eh15.1 rfl ?_
    refine xi_iload_n (pc' := 5) (x := (-4)) kc_12_4 rfl rfl ?_
    refine xi_ineg (pc' := 6) (v := 4) kc_12_5 rfl rfl ?_
    refine xi_dup2 (pc' := 7) kc_12_6 rfl ⟨rfl, rfl⟩ ?_
    refine xcps4 (xk_arr K17.1 xD_140) (fun y45 A45 hy45 ry45 => ?_)
    refine xcps4 (xj_get hy45 ry45 (i := 4) (by decide) (by decide)) (fun v46 ev46 bv46 dv46 => ?_)
    refine xi_iaload (pc' := 8) (v := v46) kc_12_7 rfl A45 (by decide) rfl (xi_in (by decide) (by rw [hy45]; decide)) ev46 ?_
    refine xi_iconst (pc' := 9) (v := 1) kc_12_8 rfl rfl ?_
    refine xcps2 (α := Int32) ((v46 : Int32) + 1) (fun v47 ev47 => ?_)
    have rv47 := xc_rng v47
    refine xi_iadd (pc' := 10) (v := v47) kc_12_9 rfl ev47 ?_
    refine xcps4 (xj_set (v := v47) hy45 ry45 4 (by first | omega | decide) (by first | omega | decide)) (fun y48 s48 hy48 ry48 => ?_)
    refine xi_iastore (pc' := 11) (x' := y48) kc_12_10 rfl A45 rfl (xi_in (by decide) (by rw [hy45]; decide)) s48 (fun hh48 eh48 => ?_)
    have K49 := xk_pa K17 (xk_wa rfl) xD_140 hy48 ry48 eh48
    refine xi_iload_n (pc' := 12) (x := (-4)) kc_12_11 rfl rfl ?_
    refine xi_ireturn kc_12_12 mr_12 rfl ?_
    show xw J ov (d + 2) 21 (17, [(0, .ref 115), (1, .int x1)], [.int (-4)], hh48) _
    refine xi_goto (pc' := 39) kc_21_17 rfl ?_
    refine xi_ireturn kc_21_39 mr_21 rfl ?_
    have zcm4 : ((-4) : Int32).toInt = (-4) := by decide
    exact kk (-4) hh48 (by omega) K49
set_option maxHeartbeats 4000000 in
theorem mt_23_0 {J : xe_J} {ov : List (List Int32)} (hJ : ∀ d mj as h, mj ≠ xe_loff → J d mj as h = none) (hov1 : ov[1]? = some [10, 0, 0, 0, 0, 0]) (hov2 : ov[2]? = some [99, 30, 50, 50, 1, 99999]) {d : Nat} {Q : Option Value → xe_H → Prop} {h : xe_H} {x1 : Int32} {x2 : Int32} {x3 : Int32} {x4 : Int32} (T : xt h) (b4 : (0 ≤ x4.toInt ∧ x4.toInt ≤ 1)) (kk : (∀ (r : Int32) (h' : xe_H), ((-6) ≤ r.toInt ∧ r.toInt ≤ 1) → xk [(0, 9), (115, 1), (83, 0), (29, 0), (31, 0), (33, 0), (35, 0), (37, 0), (39, 0), (41, 0), (43, 0), (45, 0), (47, 0), (49, 0), (51, 0), (66, 8), (115, 18), (71, 0), (132, 0)] h h' → Q (some (.int r)) h')) : xw J ov (d + 2) 23 (0, [(0, .ref 115), (1, .int x1), (2, .int x2), (3, .int x3), (4, .int x4)], [], h) Q := by
  have K : xk [(0, 9), (115, 1), (83, 0), (29, 0), (31, 0), (33, 0), (35, 0), (37, 0), (39, 0), (41, 0), (43, 0), (45, 0), (47, 0), (49, 0), (51, 0), (66, 8), (115, 18), (71, 0), (132, 0)] h h := xk_re T
  have rx1 := xc_rng x1
  have rx2 := xc_rng x2
  have rx3 := xc_rng x3
  refine xi_aload_n (pc' := 1) (x := 115) kc_23_0 rfl rfl ?_
  refine xi_iconst (pc' := 2) (v := 0) kc_23_1 rfl rfl ?_
  refine xp_115 K.1 (fun u1 u2 u3 u4 u5 u6 u7 u8 u9 u10 u11 u12 u13 bu1 bu2 bu3 bu4 bu5 bu6 bu7 bu8 bu9 bu10 bu11 bu12 bu13 A14 => ?_)
  refine xi_putfield (pc' := 5) (fs' := [.int 0, .int u2, .ref 116, .ref 117, .ref 118, .ref 119, .ref 120, .ref 121, .ref 122, .ref 123, .ref 124, .ref 125, .ref 126, .ref 127, .ref 128, .ref 129, .int u3, .ref 130, .int u4, .ref 131, .ref 132, .ref 133, .ref 134, .int u5, .ref 135, .ref 136, .ref 137, .ref 138, .ref 139, .ref 140, .ref 141, .ref 142, .int u6, .int u7, .int u8, .ref 143, .ref 144, .ref 145, .ref 146, .ref 147, .ref 148, .int u9, .ref 149, .ref 150, .ref 151, .int u10, .ref 152, .ref 153, .ref 154, .ref 155, .ref 156, .ref 157, .ref 158, .ref 159, .int u11, .ref 160, .int u12, .ref 161, .ref 162, .ref 163, .ref 164, .int u13, .ref 165, .ref 166]) kc_23_2 rfl rfl rfl A14 rfl rfl rfl (Nat.le_of_ble_eq_true rfl) rfl (fun hh16 eh15 => ?_)
  have K17 := xk_pf (k := 0) (v := 0) K (xk_wf rfl) xD_115 A14 rfl (by first | omega | decide) (by first | omega | decide) eh15 rfl
  refine xi_iload_n (pc' := 6) (x := x1) kc_23_5 rfl rfl ?_
  refine xi_static (mj := 24) (as := [.int x1]) (st1 := []) (lv0 := [(0, .int x1)]) kc_23_6 rfl rfl (Nat.le_of_ble_eq_true rfl) rfl rfl (Nat.le_of_ble_eq_true rfl) (hJ _ _ _ _ (by decide)) (xm_le ml_24 rfl) rfl ?_
  refine xi_iload_n (pc' := 1) (x := x1) kc_24_0 rfl rfl ?_
  refine xi_iconst (pc' := 2) (v := 0) kc_24_1 rfl rfl ?_
  refine xi_bipush (pc' := 4) (v := 11) kc_24_2 rfl rfl ?_
  refine xi_static (mj := 11) (as := [.int x1, .int 0, .int 11]) (st1 := []) (lv0 := [(0, .int x1), (1, .int 0), (2, .int 11)]) kc_24_4 rfl rfl (Nat.le_of_ble_eq_true rfl) rfl rfl (Nat.le_of_ble_eq_true rfl) (hJ _ _ _ _ (by decide)) (xm_le ml_11 rfl) rfl ?_
  refine xi_iload_n (pc' := 1) (x := x1) kc_11_0 rfl rfl ?_
  refine xi_iload_n (pc' := 2) (x := 0) kc_11_1 rfl rfl ?_
  by_cases c18 : x1.toInt < 0
  · refine xi_cmt (pc' := 14) kc_11_2 rfl (xc_lt_t (X := x1.toInt) (Y := 0) rfl (by decide) (by omega)) ?_
    refine xi_iconst (pc' := 15) (v := 0) kc_11_14 rfl rfl ?_
    refine xi_ireturn kc_11_15 mr_11 rfl ?_
    show xw J ov (d + 1) 24 (7, [(0, .int x1)], [.int 0], hh16) _
    refine xi_ireturn kc_24_7 mr_24 rfl ?_
    show xw J ov (d + 2) 23 (9, [(0, .ref 115), (1, .int x1), (2, .int x2), (3, .int x3), (4, .int x4)], [.int 0], hh16) _
    refine xi_ift (pc' := 19) kc_23_9 rfl rfl ?_
    refine xi_aload_n (pc' := 20) (x := 115) kc_23_19 rfl rfl ?_
    refine xi_iconst (pc' := 21) (v := (-1)) kc_23_20 rfl rfl ?_
    refine xi_virtual (mj := 12) (as := [.int (-1)]) (st1 := []) (lv0 := [(0, .ref 115), (1, .int (-1))]) kc_23_21 rfl rfl rfl rfl rfl eh15.1 (Nat.le_of_ble_eq_true rfl) (hJ _ _ _ _ (by decide)) (xm_le ml_12 rfl) rfl ?_
    refine xi_aload_n (pc' := 1) (x := 115) kc_12_0 rfl rfl ?_
    refine xi_getfield (pc' := 4) (v := .ref 140) kc_12_1 rfl rfl rfl eh15.1 rfl ?_
    refine xi_iload_n (pc' := 5) (x := (-1)) kc_12_4 rfl rfl ?_
    refine xi_ineg (pc' := 6) (v := 1) kc_12_5 rfl rfl ?_
    refine xi_dup2 (pc' := 7) kc_12_6 rfl ⟨rfl, rfl⟩ ?_
    refine xcps4 (xk_arr K17.1 xD_140) (fun y19 A19 hy19 ry19 => ?_)
    refine xcps4 (xj_get hy19 ry19 (i := 1) (by decide) (by decide)) (fun v20 ev20 bv20 dv20 => ?_)
    refine xi_iaload (pc' := 8) (v := v20) kc_12_7 rfl A19 (by decide) rfl (xi_in (by decide) (by rw [hy19]; decide)) ev20 ?_
    refine xi_iconst (pc' := 9) (v := 1) kc_12_8 rfl rfl ?_
    refine xcps2 (α := Int32) ((v20 : Int32) + 1) (fun v21 ev21 => ?_)
    have rv21 := xc_rng v21
    refine xi_iadd (pc' := 10) (v := v21) kc_12_9 rfl ev21 ?_
    refine xcps4 (xj_set (v := v21) hy19 ry19 1 (by first | omega | decide) (by first | omega | decide)) (fun y22 s22 hy22 ry22 => ?_)
    refine xi_iastore (pc' := 11) (x' := y22) kc_12_10 rfl A19 rfl (xi_in (by decide) (by rw [hy19]; decide)) s22 (fun hh22 eh22 => ?_)
    have K23 := xk_pa K17 (xk_wa rfl) xD_140 hy22 ry22 eh22
    refine xi_iload_n (pc' := 12) (x := (-1)) kc_12_11 rfl rfl ?_
    refine xi_ireturn kc_12_12 mr_12 rfl ?_
    show xw J ov (d + 2) 23 (24, [(0, .ref 115), (1, .int x1), (2, .int x2), (3, .int x3), (4, .int x4)], [.int (-1)], hh22) _
    refine xi_ireturn kc_23_24 mr_23 rfl ?_
    have zcm1 : ((-1) : Int32).toInt = (-1) := by decide
    exact kk (-1) hh22 (by omega) K23
  · refine xi_cmf (pc' := 5) kc_11_2 rfl (xc_lt_f (X := x1.toInt) (Y := 0) rfl (by decide) (by omega)) ?_
    refine xi_iload_n (pc' := 6) (x := x1) kc_11_5 rfl rfl ?_
    refine xi_iload_n (pc' := 7) (x := 11) kc_11_6 rfl rfl ?_
    by_cases c24 : 11 < x1.toInt
    · refine xi_cmt (pc' := 14) kc_11_7 rfl (xc_gt_t (X := x1.toInt) (Y := 11) rfl (by decide) (by omega)) ?_
      refine xi_iconst (pc' := 15) (v := 0) kc_11_14 rfl rfl ?_
      refine xi_ireturn kc_11_15 mr_11 rfl ?_
      show xw J ov (d + 1) 24 (7, [(0, .int x1)], [.int 0], hh16) _
      refine xi_ireturn kc_24_7 mr_24 rfl ?_
      show xw J ov (d + 2) 23 (9, [(0, .ref 115), (1, .int x1), (2, .int x2), (3, .int x3), (4, .int x4)], [.int 0], hh16) _
      refine xi_ift (pc' := 19) kc_23_9 rfl rfl ?_
      refine xi_aload_n (pc' := 20) (x := 115) kc_23_19 rfl rfl ?_
      refine xi_iconst (pc' := 21) (v := (-1)) kc_23_20 rfl rfl ?_
      refine xi_virtual (mj := 12) (as := [.int (-1)]) (st1 := []) (lv0 := [(0, .ref 115), (1, .int (-1))]) kc_23_21 rfl rfl rfl rfl rfl eh15.1 (Nat.le_of_ble_eq_true rfl) (hJ _ _ _ _ (by decide)) (xm_le ml_12 rfl) rfl ?_
      refine xi_aload_n (pc' := 1) (x := 115) kc_12_0 rfl rfl ?_
      refine xi_getfield (pc' := 4) (v := .ref 140) kc_12_1 rfl rfl rfl eh15.1 rfl ?_
      refine xi_iload_n (pc' := 5) (x := (-1)) kc_12_4 rfl rfl ?_
      refine xi_ineg (pc' := 6) (v := 1) kc_12_5 rfl rfl ?_
      refine xi_dup2 (pc' := 7) kc_12_6 rfl ⟨rfl, rfl⟩ ?_
      refine xcps4 (xk_arr K17.1 xD_140) (fun y25 A25 hy25 ry25 => ?_)
      refine xcps4 (xj_get hy25 ry25 (i := 1) (by decide) (by decide)) (fun v26 ev26 bv26 dv26 => ?_)
      refine xi_iaload (pc' := 8) (v := v26) kc_12_7 rfl A25 (by decide) rfl (xi_in (by decide) (by rw [hy25]; decide)) ev26 ?_
      refine xi_iconst (pc' := 9) (v := 1) kc_12_8 rfl rfl ?_
      refine xcps2 (α := Int32) ((v26 : Int32) + 1) (fun v27 ev27 => ?_)
      have rv27 := xc_rng v27
      refine xi_iadd (pc' := 10) (v := v27) kc_12_9 rfl ev27 ?_
      refine xcps4 (xj_set (v := v27) hy25 ry25 1 (by first | omega | decide) (by first | omega | decide)) (fun y28 s28 hy28 ry28 => ?_)
      refine xi_iastore (pc' := 11) (x' := y28) kc_12_10 rfl A25 rfl (xi_in (by decide) (by rw [hy25]; decide)) s28 (fun hh28 eh28 => ?_)
      have K29 := xk_pa K17 (xk_wa rfl) xD_140 hy28 ry28 eh28
      refine xi_iload_n (pc' := 12) (x := (-1)) kc_12_11 rfl rfl ?_
      refine xi_ireturn kc_12_12 mr_12 rfl ?_
      show xw J ov (d + 2) 23 (24, [(0, .ref 115), (1, .int x1), (2, .int x2), (3, .int x3), (4, .int x4)], [.int (-1)], hh28) _
      refine xi_ireturn kc_23_24 mr_23 rfl ?_
      have zcm1 : ((-1) : Int32).toInt = (-1) := by decide
      exact kk (-1) hh28 (by omega) K29
    · refine xi_cmf (pc' := 10) kc_11_7 rfl (xc_gt_f (X := x1.toInt) (Y := 11) rfl (by decide) (by omega)) ?_
      refine xi_iconst (pc' := 11) (v := 1) kc_11_10 rfl rfl ?_
      refine xi_goto (pc' := 15) kc_11_11 rfl ?_
      refine xi_ireturn kc_11_15 mr_11 rfl ?_
      show xw J ov (d + 1) 24 (7, [(0, .int x1)], [.int 1], hh16) _
      refine xi_ireturn kc_24_7 mr_24 rfl ?_
      show xw J ov (d + 2) 23 (9, [(0, .ref 115), (1, .int x1), (2, .int x2), (3, .int x3), (4, .int x4)], [.int 1], hh16) _
      refine xi_iff (pc' := 12) kc_23_9 rfl rfl ?_
      refine xi_iload_n (pc' := 13) (x := x2) kc_23_12 rfl rfl ?_
      refine xi_static (mj := 10) (as := [.int x2]) (st1 := []) (lv0 := [(0, .int x2)]) kc_23_13 rfl rfl (Nat.le_of_ble_eq_true rfl) rfl rfl (Nat.le_of_ble_eq_true rfl) (hJ _ _ _ _ (by decide)) (xm_le ml_10 rfl) rfl ?_
      refine xi_iload_n (pc' := 1) (x := x2) kc_10_0 rfl rfl ?_
      refine xi_iconst (pc' := 2) (v := 0) kc_10_1 rfl rfl ?_
      refine xi_iconst (pc' := 3) (v := 5) kc_10_2 rfl rfl ?_
      refine xi_static (mj := 11) (as := [.int x2, .int 0, .int 5]) (st1 := []) (lv0 := [(0, .int x2), (1, .int 0), (2, .int 5)]) kc_10_3 rfl rfl (Nat.le_of_ble_eq_true rfl) rfl rfl (Nat.le_of_ble_eq_true rfl) (hJ _ _ _ _ (by decide)) (xm_le ml_11 rfl) rfl ?_
      refine xi_iload_n (pc' := 1) (x := x2) kc_11_0 rfl rfl ?_
      refine xi_iload_n (pc' := 2) (x := 0) kc_11_1 rfl rfl ?_
      by_cases c30 : x2.toInt < 0
      · refine xi_cmt (pc' := 14) kc_11_2 rfl (xc_lt_t (X := x2.toInt) (Y := 0) rfl (by decide) (by omega)) ?_
        refine xi_iconst (pc' := 15) (v := 0) kc_11_14 rfl rfl ?_
        refine xi_ireturn kc_11_15 mr_11 rfl ?_
        show xw J ov (d + 1) 10 (6, [(0, .int x2)], [.int 0], hh16) _
        refine xi_ireturn kc_10_6 mr_10 rfl ?_
        show xw J ov (d + 2) 23 (16, [(0, .ref 115), (1, .int x1), (2, .int x2), (3, .int x3), (4, .int x4)], [.int 0], hh16) _
        refine xi_iff (pc' := 19) kc_23_16 rfl rfl ?_
        refine xi_aload_n (pc' := 20) (x := 115) kc_23_19 rfl rfl ?_
        refine xi_iconst (pc' := 21) (v := (-1)) kc_23_20 rfl rfl ?_
        refine xi_virtual (mj := 12) (as := [.int (-1)]) (st1 := []) (lv0 := [(0, .ref 115), (1, .int (-1))]) kc_23_21 rfl rfl rfl rfl rfl eh15.1 (Nat.le_of_ble_eq_true rfl) (hJ _ _ _ _ (by decide)) (xm_le ml_12 rfl) rfl ?_
        refine xi_aload_n (pc' := 1) (x := 115) kc_12_0 rfl rfl ?_
        refine xi_getfield (pc' := 4) (v := .ref 140) kc_12_1 rfl rfl rfl eh15.1 rfl ?_
        refine xi_iload_n (pc' := 5) (x := (-1)) kc_12_4 rfl rfl ?_
        refine xi_ineg (pc' := 6) (v := 1) kc_12_5 rfl rfl ?_
        refine xi_dup2 (pc' := 7) kc_12_6 rfl ⟨rfl, rfl⟩ ?_
        refine xcps4 (xk_arr K17.1 xD_140) (fun y31 A31 hy31 ry31 => ?_)
        refine xcps4 (xj_get hy31 ry31 (i := 1) (by decide) (by decide)) (fun v32 ev32 bv32 dv32 => ?_)
        refine xi_iaload (pc' := 8) (v := v32) kc_12_7 rfl A31 (by decide) rfl (xi_in (by decide) (by rw [hy31]; decide)) ev32 ?_
        refine xi_iconst (pc' := 9) (v := 1) kc_12_8 rfl rfl ?_
        refine xcps2 (α := Int32) ((v32 : Int32) + 1) (fun v33 ev33 => ?_)
        have rv33 := xc_rng v33
        refine xi_iadd (pc' := 10) (v := v33) kc_12_9 rfl ev33 ?_
        refine xcps4 (xj_set (v := v33) hy31 ry31 1 (by first | omega | decide) (by first | omega | decide)) (fun y34 s34 hy34 ry34 => ?_)
        refine xi_iastore (pc' := 11) (x' := y34) kc_12_10 rfl A31 rfl (xi_in (by decide) (by rw [hy31]; decide)) s34 (fun hh34 eh34 => ?_)
        have K35 := xk_pa K17 (xk_wa rfl) xD_140 hy34 ry34 eh34
        refine xi_iload_n (pc' := 12) (x := (-1)) kc_12_11 rfl rfl ?_
        refine xi_ireturn kc_12_12 mr_12 rfl ?_
        show xw J ov (d + 2) 23 (24, [(0, .ref 115), (1, .int x1), (2, .int x2), (3, .int x3), (4, .int x4)], [.int (-1)], hh34) _
        refine xi_ireturn kc_23_24 mr_23 rfl ?_
        have zcm1 : ((-1) : Int32).toInt = (-1) := by decide
        exact kk (-1) hh34 (by omega) K35
      · refine xi_cmf (pc' := 5) kc_11_2 rfl (xc_lt_f (X := x2.toInt) (Y := 0) rfl (by decide) (by omega)) ?_
        refine xi_iload_n (pc' := 6) (x := x2) kc_11_5 rfl rfl ?_
        refine xi_iload_n (pc' := 7) (x := 5) kc_11_6 rfl rfl ?_
        by_cases c36 : 5 < x2.toInt
        · refine xi_cmt (pc' := 14) kc_11_7 rfl (xc_gt_t (X := x2.toInt) (Y := 5) rfl (by decide) (by omega)) ?_
          refine xi_iconst (pc' := 15) (v := 0) kc_11_14 rfl rfl ?_
          refine xi_ireturn kc_11_15 mr_11 rfl ?_
          show xw J ov (d + 1) 10 (6, [(0, .int x2)], [.int 0], hh16) _
          refine xi_ireturn kc_10_6 mr_10 rfl ?_
          show xw J ov (d + 2) 23 (16, [(0, .ref 115), (1, .int x1), (2, .int x2), (3, .int x3), (4, .int x4)], [.int 0], hh16) _
          refine xi_iff (pc' := 19) kc_23_16 rfl rfl ?_
          refine xi_aload_n (pc' := 20) (x := 115) kc_23_19 rfl rfl ?_
          refine xi_iconst (pc' := 21) (v := (-1)) kc_23_20 rfl rfl ?_
          refine xi_virtual (mj := 12) (as := [.int (-1)]) (st1 := []) (lv0 := [(0, .ref 115), (1, .int (-1))]) kc_23_21 rfl rfl rfl rfl rfl eh15.1 (Nat.le_of_ble_eq_true rfl) (hJ _ _ _ _ (by decide)) (xm_le ml_12 rfl) rfl ?_
          refine xi_aload_n (pc' := 1) (x := 115) kc_12_0 rfl rfl ?_
          refine xi_getfield (pc' := 4) (v := .ref 140) kc_12_1 rfl rfl rfl eh15.1 rfl ?_
          refine xi_iload_n (pc' := 5) (x := (-1)) kc_12_4 rfl rfl ?_
          refine xi_ineg (pc' := 6) (v := 1) kc_12_5 rfl rfl ?_
          refine xi_dup2 (pc' := 7) kc_12_6 rfl ⟨rfl, rfl⟩ ?_
          refine xcps4 (xk_arr K17.1 xD_140) (fun y37 A37 hy37 ry37 => ?_)
          refine xcps4 (xj_get hy37 ry37 (i := 1) (by decide) (by decide)) (fun v38 ev38 bv38 dv38 => ?_)
          refine xi_iaload (pc' := 8) (v := v38) kc_12_7 rfl A37 (by decide) rfl (xi_in (by decide) (by rw [hy37]; decide)) ev38 ?_
          refine xi_iconst (pc' := 9) (v := 1) kc_12_8 rfl rfl ?_
          refine xcps2 (α := Int32) ((v38 : Int32) + 1) (fun v39 ev39 => ?_)
          have rv39 := xc_rng v39
          refine xi_iadd (pc' := 10) (v := v39) kc_12_9 rfl ev39 ?_
          refine xcps4 (xj_set (v := v39) hy37 ry37 1 (by first | omega | decide) (by first | omega | decide)) (fun y40 s40 hy40 ry40 => ?_)
          refine xi_iastore (pc' := 11) (x' := y40) kc_12_10 rfl A37 rfl (xi_in (by decide) (by rw [hy37]; decide)) s40 (fun hh40 eh40 => ?_)
          have K41 := xk_pa K17 (xk_wa rfl) xD_140 hy40 ry40 eh40
          refine xi_iload_n (pc' := 12) (x := (-1)) kc_12_11 rfl rfl ?_
          refine xi_ireturn kc_12_12 mr_12 rfl ?_
          show xw J ov (d + 2) 23 (24, [(0, .ref 115), (1, .int x1), (2, .int x2), (3, .int x3), (4, .int x4)], [.int (-1)], hh40) _
          refine xi_ireturn kc_23_24 mr_23 rfl ?_
          have zcm1 : ((-1) : Int32).toInt = (-1) := by decide
          exact kk (-1) hh40 (by omega) K41
        · refine xi_cmf (pc' := 10) kc_11_7 rfl (xc_gt_f (X := x2.toInt) (Y := 5) rfl (by decide) (by omega)) ?_
          refine xi_iconst (pc' := 11) (v := 1) kc_11_10 rfl rfl ?_
          refine xi_goto (pc' := 15) kc_11_11 rfl ?_
          refine xi_ireturn kc_11_15 mr_11 rfl ?_
          show xw J ov (d + 1) 10 (6, [(0, .int x2)], [.int 1], hh16) _
          refine xi_ireturn kc_10_6 mr_10 rfl ?_
          show xw J ov (d + 2) 23 (16, [(0, .ref 115), (1, .int x1), (2, .int x2), (3, .int x3), (4, .int x4)], [.int 1], hh16) _
          refine xi_ift (pc' := 25) kc_23_16 rfl rfl ?_
          refine xi_iload_n (pc' := 26) (x := x3) kc_23_25 rfl rfl ?_
          by_cases c42 : 0 ≤ x3.toInt
          · refine xi_ift (pc' := 36) kc_23_26 rfl (xc_ge_t (X := x3.toInt) (Y := 0) rfl (by decide) (by omega)) ?_
            refine xi_iload_n (pc' := 37) (x := x3) kc_23_36 rfl rfl ?_
            refine xi_bipush (pc' := 39) (v := 100) kc_23_37 rfl rfl ?_
            by_cases c43 : x3.toInt ≤ 100
            · refine xi_cmt (pc' := 49) kc_23_39 rfl (xc_le_t (X := x3.toInt) (Y := 100) rfl (by decide) (by omega)) ?_
              refine xi_aload_n (pc' := 50) (x := 115) kc_23_49 rfl rfl ?_
              refine xi_getfield (pc' := 53) (v := .ref 125) kc_23_50 rfl rfl rfl eh15.1 rfl ?_
              refine xi_iload_n (pc' := 54) (x := x1) kc_23_53 rfl rfl ?_
              refine xcps4 (xk_arr K17.1 xD_125) (fun y44 A44 hy44 ry44 => ?_)
              refine xcps4 (xj_get hy44 ry44 (i := x1) (by omega) (by omega)) (fun v45 ev45 bv45 dv45 => ?_)
              refine xi_iaload (pc' := 55) (v := v45) kc_23_54 rfl A44 (by decide) rfl (xi_in (by omega) (by rw [hy44]; omega)) ev45 ?_
              by_cases c46 : v45.toInt < 0
              · refine xi_ift (pc' := 62) kc_23_55 rfl (xc_lt_t (X := v45.toInt) (Y := 0) rfl (by decide) (by omega)) ?_
                refine xi_iconst (pc' := 63) (v := 0) kc_23_62 rfl rfl ?_
                refine xi_istore (pc' := 65) (lv' := [(5, .int 0), (0, .ref 115), (1, .int x1), (2, .int x2), (3, .int x3), (4, .int x4)]) kc_23_63 rfl rfl (xm_lt ml_23 rfl) ?_
                refine xi_aload_n (pc' := 66) (x := 115) kc_23_65 rfl rfl ?_
                refine xi_getfield (pc' := 69) (v := .ref 125) kc_23_66 rfl rfl rfl eh15.1 rfl ?_
                refine xi_iload_n (pc' := 70) (x := x1) kc_23_69 rfl rfl ?_
                refine xi_iload_n (pc' := 71) (x := x2) kc_23_70 rfl rfl ?_
                refine xcps4 (xj_set (v := x2) hy44 ry44 x1 (by first | omega | decide) (by first | omega | decide)) (fun y47 s47 hy47 ry47 => ?_)
                refine xi_iastore (pc' := 72) (x' := y47) kc_23_71 rfl A44 rfl (xi_in (by omega) (by rw [hy44]; omega)) s47 (fun hh47 eh47 => ?_)
                have K48 := xk_pa K17 (xk_wa rfl) xD_125 hy47 ry47 eh47
                refine xi_aload_n (pc' := 73) (x := 115) kc_23_72 rfl rfl ?_
                have A49 := ((eh47.2.1 115 (by decide)).trans eh15.1)
                refine xi_getfield (pc' := 76) (v := .ref 126) kc_23_73 rfl rfl rfl A49 rfl ?_
                refine xi_iload_n (pc' := 77) (x := x1) kc_23_76 rfl rfl ?_
                refine xi_iload_n (pc' := 78) (x := x3) kc_23_77 rfl rfl ?_
                refine xcps4 (xk_arr K48.1 xD_126) (fun y50 A50 hy50 ry50 => ?_)
                refine xcps4 (xj_set (v := x3) hy50 ry50 x1 (by first | omega | decide) (by first | omega | decide)) (fun y51 s51 hy51 ry51 => ?_)
                refine xi_iastore (pc' := 79) (x' := y51) kc_23_78 rfl A50 rfl (xi_in (by omega) (by rw [hy50]; omega)) s51 (fun hh51 eh51 => ?_)
                have K52 := xk_pa K48 (xk_wa rfl) xD_126 hy51 ry51 eh51
                refine xi_aload_n (pc' := 80) (x := 115) kc_23_79 rfl rfl ?_
                have A53 := ((eh51.2.1 115 (by decide)).trans A49)
                refine xi_getfield (pc' := 83) (v := .ref 127) kc_23_80 rfl rfl rfl A53 rfl ?_
                refine xi_iload_n (pc' := 84) (x := x1) kc_23_83 rfl rfl ?_
                refine xi_iload (pc' := 86) (x := x4) kc_23_84 rfl rfl ?_
                refine xcps4 (xk_arr K52.1 xD_127) (fun y54 A54 hy54 ry54 => ?_)
                by_cases c55 : x4.toInt = 0
                · have qx4 : x4 = 0 := xc_of (Eq.trans (by omega) (show (0 : Int) = (0 : Int32).toInt by decide))
                  subst qx4
                  refine xcps4 (xj_set (v := 0) hy54 ry54 x1 (by first | omega | decide) (by first | omega | decide)) (fun y56 s56 hy56 ry56 => ?_)
                  refine xi_bastore (pc' := 87) (x' := y56) kc_23_86 rfl A54 rfl (xi_in (by omega) (by rw [hy54]; omega)) s56 (fun hh56 eh56 => ?_)
                  have K57 := xk_pa K52 (xk_wa rfl) xD_127 hy56 ry56 eh56
                  refine xi_aload_n (pc' := 88) (x := 115) kc_23_87 rfl rfl ?_
                  refine xi_iconst (pc' := 89) (v := 0) kc_23_88 rfl rfl ?_
                  have A58 := ((eh56.2.1 115 (by decide)).trans A53)
                  refine xi_putfield (pc' := 92) (fs' := [.int 0, .int u2, .ref 116, .ref 117, .ref 118, .ref 119, .ref 120, .ref 121, .ref 122, .ref 123, .ref 124, .ref 125, .ref 126, .ref 127, .ref 128, .ref 129, .int u3, .ref 130, .int u4, .ref 131, .ref 132, .ref 133, .ref 134, .int u5, .ref 135, .ref 136, .ref 137, .ref 138, .ref 139, .ref 140, .ref 141, .ref 142, .int u6, .int u7, .int u8, .ref 143, .ref 144, .ref 145, .ref 146, .ref 147, .ref 148, .int 0, .ref 149, .ref 150, .ref 151, .int u10, .ref 152, .ref 153, .ref 154, .ref 155, .ref 156, .ref 157, .ref 158, .ref 159, .int u11, .ref 160, .int u12, .ref 161, .ref 162, .ref 163, .ref 164, .int u13, .ref 165, .ref 166]) kc_23_89 rfl rfl rfl A58 rfl rfl rfl (Nat.le_of_ble_eq_true rfl) rfl (fun hh60 eh59 => ?_)
                  have K61 := xk_pf (k := 41) (v := 0) K57 (xk_wf rfl) xD_115 A58 rfl (by first | omega | decide) (by first | omega | decide) eh59 rfl
                  refine xi_iload (pc' := 94) (x := 0) kc_23_92 rfl rfl ?_
                  refine xi_ift (pc' := 101) kc_23_94 rfl rfl ?_
                  refine xi_iconst (pc' := 102) (v := 1) kc_23_101 rfl rfl ?_
                  refine xi_ireturn kc_23_102 mr_23 rfl ?_
                  have zc1 : (1 : Int32).toInt = 1 := by decide
                  exact kk 1 hh60 (by omega) K61
                have qx4 : x4 = 1 := xc_of (Eq.trans (by omega) (show (1 : Int) = (1 : Int32).toInt by decide))
                subst qx4
                refine xcps4 (xj_set (v := 1) hy54 ry54 x1 (by first | omega | decide) (by first | omega | decide)) (fun y62 s62 hy62 ry62 => ?_)
                refine xi_bastore (pc' := 87) (x' := y62) kc_23_86 rfl A54 rfl (xi_in (by omega) (by rw [hy54]; omega)) s62 (fun hh62 eh62 => ?_)
                have K63 := xk_pa K52 (xk_wa rfl) xD_127 hy62 ry62 eh62
                refine xi_aload_n (pc' := 88) (x := 115) kc_23_87 rfl rfl ?_
                refine xi_iconst (pc' := 89) (v := 0) kc_23_88 rfl rfl ?_
                have A64 := ((eh62.2.1 115 (by decide)).trans A53)
                refine xi_putfield (pc' := 92) (fs' := [.int 0, .int u2, .ref 116, .ref 117, .ref 118, .ref 119, .ref 120, .ref 121, .ref 122, .ref 123, .ref 124, .ref 125, .ref 126, .ref 127, .ref 128, .ref 129, .int u3, .ref 130, .int u4, .ref 131, .ref 132, .ref 133, .ref 134, .int u5, .ref 135, .ref 136, .ref 137, .ref 138, .ref 139, .ref 140, .ref 141, .ref 142, .int u6, .int u7, .int u8, .ref 143, .ref 144, .ref 145, .ref 146, .ref 147, .ref 148, .int 0, .ref 149, .ref 150, .ref 151, .int u10, .ref 152, .ref 153, .ref 154, .ref 155, .ref 156, .ref 157, .ref 158, .ref 159, .int u11, .ref 160, .int u12, .ref 161, .ref 162, .ref 163, .ref 164, .int u13, .ref 165, .ref 166]) kc_23_89 rfl rfl rfl A64 rfl rfl rfl (Nat.le_of_ble_eq_true rfl) rfl (fun hh66 eh65 => ?_)
                have K67 := xk_pf (k := 41) (v := 0) K63 (xk_wf rfl) xD_115 A64 rfl (by first | omega | decide) (by first | omega | decide) eh65 rfl
                refine xi_iload (pc' := 94) (x := 0) kc_23_92 rfl rfl ?_
                refine xi_ift (pc' := 101) kc_23_94 rfl rfl ?_
                refine xi_iconst (pc' := 102) (v := 1) kc_23_101 rfl rfl ?_
                refine xi_ireturn kc_23_102 mr_23 rfl ?_
                have zc1 : (1 : Int32).toInt = 1 := by decide
                exact kk 1 hh66 (by omega) K67
              · refine xi_iff (pc' := 58) kc_23_55 rfl (xc_lt_f (X := v45.toInt) (Y := 0) rfl (by decide) (by omega)) ?_
                refine xi_iconst (pc' := 59) (v := 1) kc_23_58 rfl rfl ?_
                refine xi_goto (pc' := 63) kc_23_59 rfl ?_
                refine xi_istore (pc' := 65) (lv' := [(5, .int 1), (0, .ref 115), (1, .int x1), (2, .int x2), (3, .int x3), (4, .int x4)]) kc_23_63 rfl rfl (xm_lt ml_23 rfl) ?_
                refine xi_aload_n (pc' := 66) (x := 115) kc_23_65 rfl rfl ?_
                refine xi_getfield (pc' := 69) (v := .ref 125) kc_23_66 rfl rfl rfl eh15.1 rfl ?_
                refine xi_iload_n (pc' := 70) (x := x1) kc_23_69 rfl rfl ?_
                refine xi_iload_n (pc' := 71) (x := x2) kc_23_70 rfl rfl ?_
                refine xcps4 (xj_set (v := x2) hy44 ry44 x1 (by first | omega | decide) (by first | omega | decide)) (fun y68 s68 hy68 ry68 => ?_)
                refine xi_iastore (pc' := 72) (x' := y68) kc_23_71 rfl A44 rfl (xi_in (by omega) (by rw [hy44]; omega)) s68 (fun hh68 eh68 => ?_)
                have K69 := xk_pa K17 (xk_wa rfl) xD_125 hy68 ry68 eh68
                refine xi_aload_n (pc' := 73) (x := 115) kc_23_72 rfl rfl ?_
                have A70 := ((eh68.2.1 115 (by decide)).trans eh15.1)
                refine xi_getfield (pc' := 76) (v := .ref 126) kc_23_73 rfl rfl rfl A70 rfl ?_
                refine xi_iload_n (pc' := 77) (x := x1) kc_23_76 rfl rfl ?_
                refine xi_iload_n (pc' := 78) (x := x3) kc_23_77 rfl rfl ?_
                refine xcps4 (xk_arr K69.1 xD_126) (fun y71 A71 hy71 ry71 => ?_)
                refine xcps4 (xj_set (v := x3) hy71 ry71 x1 (by first | omega | decide) (by first | omega | decide)) (fun y72 s72 hy72 ry72 => ?_)
                refine xi_iastore (pc' := 79) (x' := y72) kc_23_78 rfl A71 rfl (xi_in (by omega) (by rw [hy71]; omega)) s72 (fun hh72 eh72 => ?_)
                have K73 := xk_pa K69 (xk_wa rfl) xD_126 hy72 ry72 eh72
                refine xi_aload_n (pc' := 80) (x := 115) kc_23_79 rfl rfl ?_
                have A74 := ((eh72.2.1 115 (by decide)).trans A70)
                refine xi_getfield (pc' := 83) (v := .ref 127) kc_23_80 rfl rfl rfl A74 rfl ?_
                refine xi_iload_n (pc' := 84) (x := x1) kc_23_83 rfl rfl ?_
                refine xi_iload (pc' := 86) (x := x4) kc_23_84 rfl rfl ?_
                refine xcps4 (xk_arr K73.1 xD_127) (fun y75 A75 hy75 ry75 => ?_)
                by_cases c76 : x4.toInt = 0
                · have qx4 : x4 = 0 := xc_of (Eq.trans (by omega) (show (0 : Int) = (0 : Int32).toInt by decide))
                  subst qx4
                  refine xcps4 (xj_set (v := 0) hy75 ry75 x1 (by first | omega | decide) (by first | omega | decide)) (fun y77 s77 hy77 ry77 => ?_)
                  refine xi_bastore (pc' := 87) (x' := y77) kc_23_86 rfl A75 rfl (xi_in (by omega) (by rw [hy75]; omega)) s77 (fun hh77 eh77 => ?_)
                  have K78 := xk_pa K73 (xk_wa rfl) xD_127 hy77 ry77 eh77
                  refine xi_aload_n (pc' := 88) (x := 115) kc_23_87 rfl rfl ?_
                  refine xi_iconst (pc' := 89) (v := 0) kc_23_88 rfl rfl ?_
                  have A79 := ((eh77.2.1 115 (by decide)).trans A74)
                  refine xi_putfield (pc' := 92) (fs' := [.int 0, .int u2, .ref 116, .ref 117, .ref 118, .ref 119, .ref 120, .ref 121, .ref 122, .ref 123, .ref 124, .ref 125, .ref 126, .ref 127, .ref 128, .ref 129, .int u3, .ref 130, .int u4, .ref 131, .ref 132, .ref 133, .ref 134, .int u5, .ref 135, .ref 136, .ref 137, .ref 138, .ref 139, .ref 140, .ref 141, .ref 142, .int u6, .int u7, .int u8, .ref 143, .ref 144, .ref 145, .ref 146, .ref 147, .ref 148, .int 0, .ref 149, .ref 150, .ref 151, .int u10, .ref 152, .ref 153, .ref 154, .ref 155, .ref 156, .ref 157, .ref 158, .ref 159, .int u11, .ref 160, .int u12, .ref 161, .ref 162, .ref 163, .ref 164, .int u13, .ref 165, .ref 166]) kc_23_89 rfl rfl rfl A79 rfl rfl rfl (Nat.le_of_ble_eq_true rfl) rfl (fun hh81 eh80 => ?_)
                  have K82 := xk_pf (k := 41) (v := 0) K78 (xk_wf rfl) xD_115 A79 rfl (by first | omega | decide) (by first | omega | decide) eh80 rfl
                  refine xi_iload (pc' := 94) (x := 1) kc_23_92 rfl rfl ?_
                  refine xi_iff (pc' := 97) kc_23_94 rfl rfl ?_
                  refine xi_iconst (pc' := 98) (v := 0) kc_23_97 rfl rfl ?_
                  refine xi_goto (pc' := 102) kc_23_98 rfl ?_
                  refine xi_ireturn kc_23_102 mr_23 rfl ?_
                  have zc0 : (0 : Int32).toInt = 0 := by decide
                  exact kk 0 hh81 (by omega) K82
                have qx4 : x4 = 1 := xc_of (Eq.trans (by omega) (show (1 : Int) = (1 : Int32).toInt by decide))
                subst qx4
                refine xcps4 (xj_set (v := 1) hy75 ry75 x1 (by first | omega | decide) (by first | omega | decide)) (fun y83 s83 hy83 ry83 => ?_)
                refine xi_bastore (pc' := 87) (x' := y83) kc_23_86 rfl A75 rfl (xi_in (by omega) (by rw [hy75]; omega)) s83 (fun hh83 eh83 => ?_)
                have K84 := xk_pa K73 (xk_wa rfl) xD_127 hy83 ry83 eh83
                refine xi_aload_n (pc' := 88) (x := 115) kc_23_87 rfl rfl ?_
                refine xi_iconst (pc' := 89) (v := 0) kc_23_88 rfl rfl ?_
                have A85 := ((eh83.2.1 115 (by decide)).trans A74)
                refine xi_putfield (pc' := 92) (fs' := [.int 0, .int u2, .ref 116, .ref 117, .ref 118, .ref 119, .ref 120, .ref 121, .ref 122, .ref 123, .ref 124, .ref 125, .ref 126, .ref 127, .ref 128, .ref 129, .int u3, .ref 130, .int u4, .ref 131, .ref 132, .ref 133, .ref 134, .int u5, .ref 135, .ref 136, .ref 137, .ref 138, .ref 139, .ref 140, .ref 141, .ref 142, .int u6, .int u7, .int u8, .ref 143, .ref 144, .ref 145, .ref 146, .ref 147, .ref 148, .int 0, .ref 149, .ref 150, .ref 151, .int u10, .ref 152, .ref 153, .ref 154, .ref 155, .ref 156, .ref 157, .ref 158, .ref 159, .int u11, .ref 160, .int u12, .ref 161, .ref 162, .ref 163, .ref 164, .int u13, .ref 165, .ref 166]) kc_23_89 rfl rfl rfl A85 rfl rfl rfl (Nat.le_of_ble_eq_true rfl) rfl (fun hh87 eh86 => ?_)
                have K88 := xk_pf (k := 41) (v := 0) K84 (xk_wf rfl) xD_115 A85 rfl (by first | omega | decide) (by first | omega | decide) eh86 rfl
                refine xi_iload (pc' := 94) (x := 1) kc_23_92 rfl rfl ?_
                refine xi_iff (pc' := 97) kc_23_94 rfl rfl ?_
                refine xi_iconst (pc' := 98) (v := 0) kc_23_97 rfl rfl ?_
                refine xi_goto (pc' := 102) kc_23_98 rfl ?_
                refine xi_ireturn kc_23_102 mr_23 rfl ?_
                have zc0 : (0 : Int32).toInt = 0 := by decide
                exact kk 0 hh87 (by omega) K88
            · refine xi_cmf (pc' := 42) kc_23_39 rfl (xc_le_f (X := x3.toInt) (Y := 100) rfl (by decide) (by omega)) ?_
              refine xi_aload_n (pc' := 43) (x := 115) kc_23_42 rfl rfl ?_
              refine xi_bipush (pc' := 45) (v := (-6)) kc_23_43 rfl rfl ?_
              refine xi_virtual (mj := 12) (as := [.int (-6)]) (st1 := []) (lv0 := [(0, .ref 115), (1, .int (-6))]) kc_23_45 rfl rfl rfl rfl rfl eh15.1 (Nat.le_of_ble_eq_true rfl) (hJ _ _ _ _ (by decide)) (xm_le ml_12 rfl) rfl ?_
              refine xi_aload_n (pc' := 1) (x := 115) kc_12_0 rfl rfl ?_
              refine xi_getfield (pc' := 4) (v := .ref 140) kc_12_1 rfl rfl rfl eh15.1 rfl ?_
              refine xi_iload_n (pc' := 5) (x := (-6)) kc_12_4 rfl rfl ?_
              refine xi_ineg (pc' := 6) (v := 6) kc_12_5 rfl rfl ?_
              refine xi_dup2 (pc' := 7) kc_12_6 rfl ⟨rfl, rfl⟩ ?_
              refine xcps4 (xk_arr K17.1 xD_140) (fun y89 A89 hy89 ry89 => ?_)
              refine xcps4 (xj_get hy89 ry89 (i := 6) (by decide) (by decide)) (fun v90 ev90 bv90 dv90 => ?_)
              refine xi_iaload (pc' := 8) (v := v90) kc_12_7 rfl A89 (by decide) rfl (xi_in (by decide) (by rw [hy89]; decide)) ev90 ?_
              refine xi_iconst (pc' := 9) (v := 1) kc_12_8 rfl rfl ?_
              refine xcps2 (α := Int32) ((v90 : Int32) + 1) (fun v91 ev91 => ?_)
              have rv91 := xc_rng v91
              refine xi_iadd (pc' := 10) (v := v91) kc_12_9 rfl ev91 ?_
              refine xcps4 (xj_set (v := v91) hy89 ry89 6 (by first | omega | decide) (by first | omega | decide)) (fun y92 s92 hy92 ry92 => ?_)
              refine xi_iastore (pc' := 11) (x' := y92) kc_12_10 rfl A89 rfl (xi_in (by decide) (by rw [hy89]; decide)) s92 (fun hh92 eh92 => ?_)
              have K93 := xk_pa K17 (xk_wa rfl) xD_140 hy92 ry92 eh92
              refine xi_iload_n (pc' := 12) (x := (-6)) kc_12_11 rfl rfl ?_
              refine xi_ireturn kc_12_12 mr_12 rfl ?_
              show xw J ov (d + 2) 23 (48, [(0, .ref 115), (1, .int x1), (2, .int x2), (3, .int x3), (4, .int x4)], [.int (-6)], hh92) _
              refine xi_ireturn kc_23_48 mr_23 rfl ?_
              have zcm6 : ((-6) : Int32).toInt = (-6) := by decide
              exact kk (-6) hh92 (by omega) K93
          · refine xi_iff (pc' := 29) kc_23_26 rfl (xc_ge_f (X := x3.toInt) (Y := 0) rfl (by decide) (by omega)) ?_
            refine xi_aload_n (pc' := 30) (x := 115) kc_23_29 rfl rfl ?_
            refine xi_bipush (pc' := 32) (v := (-4)) kc_23_30 rfl rfl ?_
            refine xi_virtual (mj := 12) (as := [.int (-4)]) (st1 := []) (lv0 := [(0, .ref 115), (1, .int (-4))]) kc_23_32 rfl rfl rfl rfl rfl eh15.1 (Nat.le_of_ble_eq_true rfl) (hJ _ _ _ _ (by decide)) (xm_le ml_12 rfl) rfl ?_
            refine xi_aload_n (pc' := 1) (x := 115) kc_12_0 rfl rfl ?_
            refine xi_getfield (pc' := 4) (v := .ref 140) kc_12_1 rfl rfl rfl eh15.1 rfl ?_
            refine xi_iload_n (pc' := 5) (x := (-4)) kc_12_4 rfl rfl ?_
            refine xi_ineg (pc' := 6) (v := 4) kc_12_5 rfl rfl ?_
            refine xi_dup2 (pc' := 7) kc_12_6 rfl ⟨rfl, rfl⟩ ?_
            refine xcps4 (xk_arr K17.1 xD_140) (fun y94 A94 hy94 ry94 => ?_)
            refine xcps4 (xj_get hy94 ry94 (i := 4) (by decide) (by decide)) (fun v95 ev95 bv95 dv95 => ?_)
            refine xi_iaload (pc' := 8) (v := v95) kc_12_7 rfl A94 (by decide) rfl (xi_in (by decide) (by rw [hy94]; decide)) ev95 ?_
            refine xi_iconst (pc' := 9) (v := 1) kc_12_8 rfl rfl ?_
            refine xcps2 (α := Int32) ((v95 : Int32) + 1) (fun v96 ev96 => ?_)
            have rv96 := xc_rng v96
            refine xi_iadd (pc' := 10) (v := v96) kc_12_9 rfl ev96 ?_
            refine xcps4 (xj_set (v := v96) hy94 ry94 4 (by first | omega | decide) (by first | omega | decide)) (fun y97 s97 hy97 ry97 => ?_)
            refine xi_iastore (pc' := 11) (x' := y97) kc_12_10 rfl A94 rfl (xi_in (by decide) (by rw [hy94]; decide)) s97 (fun hh97 eh97 => ?_)
            have K98 := xk_pa K17 (xk_wa rfl) xD_140 hy97 ry97 eh97
            refine xi_iload_n (pc' := 12) (x := (-4)) kc_12_11 rfl rfl ?_
            refine xi_ireturn kc_12_12 mr_12 rfl ?_
            show xw J ov (d + 2) 23 (35, [(0, .ref 115), (1, .int x1), (2, .int x2), (3, .int x3), (4, .int x4)], [.int (-4)], hh97) _
            refine xi_ireturn kc_23_35 mr_23 rfl ?_
            have zcm4 : ((-4) : Int32).toInt = (-4) := by decide
            exact kk (-4) hh97 (by omega) K98
set_option maxHeartbeats 4000000 in
theorem mt_25_0 {J : xe_J} {ov : List (List Int32)} (hJ : ∀ d mj as h, mj ≠ xe_loff → J d mj as h = none) (hov1 : ov[1]? = some [10, 0, 0, 0, 0, 0]) (hov2 : ov[2]? = some [99, 30, 50, 50, 1, 99999]) {d : Nat} {Q : Option Value → xe_H → Prop} {h : xe_H} {x1 : Int32} {x2 : Int32} (T : xt h) (kk : (∀ (r : Int32) (h' : xe_H), xk [(0, 9), (115, 1), (83, 0), (29, 0), (31, 0), (33, 0), (35, 0), (37, 0), (39, 0), (41, 0), (43, 0), (45, 0), (47, 0), (49, 0), (51, 0), (125, 0), (66, 8), (115, 18), (71, 0), (132, 0)] h h' → Q (some (.int r)) h')) : xw J ov (d + 3) 25 (0, [(0, .ref 115), (1, .int x1), (2, .int x2)], [], h) Q := by
  have K : xk [(0, 9), (115, 1), (83, 0), (29, 0), (31, 0), (33, 0), (35, 0), (37, 0), (39, 0), (41, 0), (43, 0), (45, 0), (47, 0), (49, 0), (51, 0), (125, 0), (66, 8), (115, 18), (71, 0), (132, 0)] h h := xk_re T
  have rx1 := xc_rng x1
  have rx2 := xc_rng x2
  refine xi_aload_n (pc' := 1) (x := 115) kc_25_0 rfl rfl ?_
  refine xi_iconst (pc' := 2) (v := 0) kc_25_1 rfl rfl ?_
  refine xp_115 K.1 (fun u1 u2 u3 u4 u5 u6 u7 u8 u9 u10 u11 u12 u13 bu1 bu2 bu3 bu4 bu5 bu6 bu7 bu8 bu9 bu10 bu11 bu12 bu13 A14 => ?_)
  refine xi_putfield (pc' := 5) (fs' := [.int 0, .int u2, .ref 116, .ref 117, .ref 118, .ref 119, .ref 120, .ref 121, .ref 122, .ref 123, .ref 124, .ref 125, .ref 126, .ref 127, .ref 128, .ref 129, .int u3, .ref 130, .int u4, .ref 131, .ref 132, .ref 133, .ref 134, .int u5, .ref 135, .ref 136, .ref 137, .ref 138, .ref 139, .ref 140, .ref 141, .ref 142, .int u6, .int u7, .int u8, .ref 143, .ref 144, .ref 145, .ref 146, .ref 147, .ref 148, .int u9, .ref 149, .ref 150, .ref 151, .int u10, .ref 152, .ref 153, .ref 154, .ref 155, .ref 156, .ref 157, .ref 158, .ref 159, .int u11, .ref 160, .int u12, .ref 161, .ref 162, .ref 163, .ref 164, .int u13, .ref 165, .ref 166]) kc_25_2 rfl rfl rfl A14 rfl rfl rfl (Nat.le_of_ble_eq_true rfl) rfl (fun hh16 eh15 => ?_)
  have K17 := xk_pf (k := 0) (v := 0) K (xk_wf rfl) xD_115 A14 rfl (by first | omega | decide) (by first | omega | decide) eh15 rfl
  refine xi_iload_n (pc' := 6) (x := x1) kc_25_5 rfl rfl ?_
  refine xi_static (mj := 24) (as := [.int x1]) (st1 := []) (lv0 := [(0, .int x1)]) kc_25_6 rfl rfl (Nat.le_of_ble_eq_true rfl) rfl rfl (Nat.le_of_ble_eq_true rfl) (hJ _ _ _ _ (by decide)) (xm_le ml_24 rfl) rfl ?_
  refine xi_iload_n (pc' := 1) (x := x1) kc_24_0 rfl rfl ?_
  refine xi_iconst (pc' := 2) (v := 0) kc_24_1 rfl rfl ?_
  refine xi_bipush (pc' := 4) (v := 11) kc_24_2 rfl rfl ?_
  refine xi_static (mj := 11) (as := [.int x1, .int 0, .int 11]) (st1 := []) (lv0 := [(0, .int x1), (1, .int 0), (2, .int 11)]) kc_24_4 rfl rfl (Nat.le_of_ble_eq_true rfl) rfl rfl (Nat.le_of_ble_eq_true rfl) (hJ _ _ _ _ (by decide)) (xm_le ml_11 rfl) rfl ?_
  refine xi_iload_n (pc' := 1) (x := x1) kc_11_0 rfl rfl ?_
  refine xi_iload_n (pc' := 2) (x := 0) kc_11_1 rfl rfl ?_
  by_cases c18 : x1.toInt < 0
  · refine xi_cmt (pc' := 14) kc_11_2 rfl (xc_lt_t (X := x1.toInt) (Y := 0) rfl (by decide) (by omega)) ?_
    refine xi_iconst (pc' := 15) (v := 0) kc_11_14 rfl rfl ?_
    refine xi_ireturn kc_11_15 mr_11 rfl ?_
    show xw J ov (d + 2) 24 (7, [(0, .int x1)], [.int 0], hh16) _
    refine xi_ireturn kc_24_7 mr_24 rfl ?_
    show xw J ov (d + 3) 25 (9, [(0, .ref 115), (1, .int x1), (2, .int x2)], [.int 0], hh16) _
    refine xi_iff (pc' := 12) kc_25_9 rfl rfl ?_
    refine xi_aload_n (pc' := 13) (x := 115) kc_25_12 rfl rfl ?_
    refine xi_iconst (pc' := 14) (v := (-1)) kc_25_13 rfl rfl ?_
    refine xi_virtual (mj := 12) (as := [.int (-1)]) (st1 := []) (lv0 := [(0, .ref 115), (1, .int (-1))]) kc_25_14 rfl rfl rfl rfl rfl eh15.1 (Nat.le_of_ble_eq_true rfl) (hJ _ _ _ _ (by decide)) (xm_le ml_12 rfl) rfl ?_
    refine xi_aload_n (pc' := 1) (x := 115) kc_12_0 rfl rfl ?_
    refine xi_getfield (pc' := 4) (v := .ref 140) kc_12_1 rfl rfl rfl eh15.1 rfl ?_
    refine xi_iload_n (pc' := 5) (x := (-1)) kc_12_4 rfl rfl ?_
    refine xi_ineg (pc' := 6) (v := 1) kc_12_5 rfl rfl ?_
    refine xi_dup2 (pc' := 7) kc_12_6 rfl ⟨rfl, rfl⟩ ?_
    refine xcps4 (xk_arr K17.1 xD_140) (fun y19 A19 hy19 ry19 => ?_)
    refine xcps4 (xj_get hy19 ry19 (i := 1) (by decide) (by decide)) (fun v20 ev20 bv20 dv20 => ?_)
    refine xi_iaload (pc' := 8) (v := v20) kc_12_7 rfl A19 (by decide) rfl (xi_in (by decide) (by rw [hy19]; decide)) ev20 ?_
    refine xi_iconst (pc' := 9) (v := 1) kc_12_8 rfl rfl ?_
    refine xcps2 (α := Int32) ((v20 : Int32) + 1) (fun v21 ev21 => ?_)
    have rv21 := xc_rng v21
    refine xi_iadd (pc' := 10) (v := v21) kc_12_9 rfl ev21 ?_
    refine xcps4 (xj_set (v := v21) hy19 ry19 1 (by first | omega | decide) (by first | omega | decide)) (fun y22 s22 hy22 ry22 => ?_)
    refine xi_iastore (pc' := 11) (x' := y22) kc_12_10 rfl A19 rfl (xi_in (by decide) (by rw [hy19]; decide)) s22 (fun hh22 eh22 => ?_)
    have K23 := xk_pa K17 (xk_wa rfl) xD_140 hy22 ry22 eh22
    refine xi_iload_n (pc' := 12) (x := (-1)) kc_12_11 rfl rfl ?_
    refine xi_ireturn kc_12_12 mr_12 rfl ?_
    show xw J ov (d + 3) 25 (17, [(0, .ref 115), (1, .int x1), (2, .int x2)], [.int (-1)], hh22) _
    refine xi_ireturn kc_25_17 mr_25 rfl ?_
    have zcm1 : ((-1) : Int32).toInt = (-1) := by decide
    exact kk (-1) hh22 K23
  · refine xi_cmf (pc' := 5) kc_11_2 rfl (xc_lt_f (X := x1.toInt) (Y := 0) rfl (by decide) (by omega)) ?_
    refine xi_iload_n (pc' := 6) (x := x1) kc_11_5 rfl rfl ?_
    refine xi_iload_n (pc' := 7) (x := 11) kc_11_6 rfl rfl ?_
    by_cases c24 : 11 < x1.toInt
    · refine xi_cmt (pc' := 14) kc_11_7 rfl (xc_gt_t (X := x1.toInt) (Y := 11) rfl (by decide) (by omega)) ?_
      refine xi_iconst (pc' := 15) (v := 0) kc_11_14 rfl rfl ?_
      refine xi_ireturn kc_11_15 mr_11 rfl ?_
      show xw J ov (d + 2) 24 (7, [(0, .int x1)], [.int 0], hh16) _
      refine xi_ireturn kc_24_7 mr_24 rfl ?_
      show xw J ov (d + 3) 25 (9, [(0, .ref 115), (1, .int x1), (2, .int x2)], [.int 0], hh16) _
      refine xi_iff (pc' := 12) kc_25_9 rfl rfl ?_
      refine xi_aload_n (pc' := 13) (x := 115) kc_25_12 rfl rfl ?_
      refine xi_iconst (pc' := 14) (v := (-1)) kc_25_13 rfl rfl ?_
      refine xi_virtual (mj := 12) (as := [.int (-1)]) (st1 := []) (lv0 := [(0, .ref 115), (1, .int (-1))]) kc_25_14 rfl rfl rfl rfl rfl eh15.1 (Nat.le_of_ble_eq_true rfl) (hJ _ _ _ _ (by decide)) (xm_le ml_12 rfl) rfl ?_
      refine xi_aload_n (pc' := 1) (x := 115) kc_12_0 rfl rfl ?_
      refine xi_getfield (pc' := 4) (v := .ref 140) kc_12_1 rfl rfl rfl eh15.1 rfl ?_
      refine xi_iload_n (pc' := 5) (x := (-1)) kc_12_4 rfl rfl ?_
      refine xi_ineg (pc' := 6) (v := 1) kc_12_5 rfl rfl ?_
      refine xi_dup2 (pc' := 7) kc_12_6 rfl ⟨rfl, rfl⟩ ?_
      refine xcps4 (xk_arr K17.1 xD_140) (fun y25 A25 hy25 ry25 => ?_)
      refine xcps4 (xj_get hy25 ry25 (i := 1) (by decide) (by decide)) (fun v26 ev26 bv26 dv26 => ?_)
      refine xi_iaload (pc' := 8) (v := v26) kc_12_7 rfl A25 (by decide) rfl (xi_in (by decide) (by rw [hy25]; decide)) ev26 ?_
      refine xi_iconst (pc' := 9) (v := 1) kc_12_8 rfl rfl ?_
      refine xcps2 (α := Int32) ((v26 : Int32) + 1) (fun v27 ev27 => ?_)
      have rv27 := xc_rng v27
      refine xi_iadd (pc' := 10) (v := v27) kc_12_9 rfl ev27 ?_
      refine xcps4 (xj_set (v := v27) hy25 ry25 1 (by first | omega | decide) (by first | omega | decide)) (fun y28 s28 hy28 ry28 => ?_)
      refine xi_iastore (pc' := 11) (x' := y28) kc_12_10 rfl A25 rfl (xi_in (by decide) (by rw [hy25]; decide)) s28 (fun hh28 eh28 => ?_)
      have K29 := xk_pa K17 (xk_wa rfl) xD_140 hy28 ry28 eh28
      refine xi_iload_n (pc' := 12) (x := (-1)) kc_12_11 rfl rfl ?_
      refine xi_ireturn kc_12_12 mr_12 rfl ?_
      show xw J ov (d + 3) 25 (17, [(0, .ref 115), (1, .int x1), (2, .int x2)], [.int (-1)], hh28) _
      refine xi_ireturn kc_25_17 mr_25 rfl ?_
      have zcm1 : ((-1) : Int32).toInt = (-1) := by decide
      exact kk (-1) hh28 K29
    · refine xi_cmf (pc' := 10) kc_11_7 rfl (xc_gt_f (X := x1.toInt) (Y := 11) rfl (by decide) (by omega)) ?_
      refine xi_iconst (pc' := 11) (v := 1) kc_11_10 rfl rfl ?_
      refine xi_goto (pc' := 15) kc_11_11 rfl ?_
      refine xi_ireturn kc_11_15 mr_11 rfl ?_
      show xw J ov (d + 2) 24 (7, [(0, .int x1)], [.int 1], hh16) _
      refine xi_ireturn kc_24_7 mr_24 rfl ?_
      show xw J ov (d + 3) 25 (9, [(0, .ref 115), (1, .int x1), (2, .int x2)], [.int 1], hh16) _
      refine xi_ift (pc' := 18) kc_25_9 rfl rfl ?_
      refine xi_iload_n (pc' := 19) (x := x2) kc_25_18 rfl rfl ?_
      refine xi_iconst (pc' := 20) (v := 0) kc_25_19 rfl rfl ?_
      refine xi_iconst (pc' := 21) (v := 5) kc_25_20 rfl rfl ?_
      refine xi_static (mj := 11) (as := [.int x2, .int 0, .int 5]) (st1 := []) (lv0 := [(0, .int x2), (1, .int 0), (2, .int 5)]) kc_25_21 rfl rfl (Nat.le_of_ble_eq_true rfl) rfl rfl (Nat.le_of_ble_eq_true rfl) (hJ _ _ _ _ (by decide)) (xm_le ml_11 rfl) rfl ?_
      refine xi_iload_n (pc' := 1) (x := x2) kc_11_0 rfl rfl ?_
      refine xi_iload_n (pc' := 2) (x := 0) kc_11_1 rfl rfl ?_
      by_cases c30 : x2.toInt < 0
      · refine xi_cmt (pc' := 14) kc_11_2 rfl (xc_lt_t (X := x2.toInt) (Y := 0) rfl (by decide) (by omega)) ?_
        refine xi_iconst (pc' := 15) (v := 0) kc_11_14 rfl rfl ?_
        refine xi_ireturn kc_11_15 mr_11 rfl ?_
        show xw J ov (d + 3) 25 (24, [(0, .ref 115), (1, .int x1), (2, .int x2)], [.int 0], hh16) _
        refine xi_iff (pc' := 27) kc_25_24 rfl rfl ?_
        refine xi_aload_n (pc' := 28) (x := 115) kc_25_27 rfl rfl ?_
        refine xi_bipush (pc' := 30) (v := (-2)) kc_25_28 rfl rfl ?_
        refine xi_virtual (mj := 12) (as := [.int (-2)]) (st1 := []) (lv0 := [(0, .ref 115), (1, .int (-2))]) kc_25_30 rfl rfl rfl rfl rfl eh15.1 (Nat.le_of_ble_eq_true rfl) (hJ _ _ _ _ (by decide)) (xm_le ml_12 rfl) rfl ?_
        refine xi_aload_n (pc' := 1) (x := 115) kc_12_0 rfl rfl ?_
        refine xi_getfield (pc' := 4) (v := .ref 140) kc_12_1 rfl rfl rfl eh15.1 rfl ?_
        refine xi_iload_n (pc' := 5) (x := (-2)) kc_12_4 rfl rfl ?_
        refine xi_ineg (pc' := 6) (v := 2) kc_12_5 rfl rfl ?_
        refine xi_dup2 (pc' := 7) kc_12_6 rfl ⟨rfl, rfl⟩ ?_
        refine xcps4 (xk_arr K17.1 xD_140) (fun y31 A31 hy31 ry31 => ?_)
        refine xcps4 (xj_get hy31 ry31 (i := 2) (by decide) (by decide)) (fun v32 ev32 bv32 dv32 => ?_)
        refine xi_iaload (pc' := 8) (v := v32) kc_12_7 rfl A31 (by decide) rfl (xi_in (by decide) (by rw [hy31]; decide)) ev32 ?_
        refine xi_iconst (pc' := 9) (v := 1) kc_12_8 rfl rfl ?_
        refine xcps2 (α := Int32) ((v32 : Int32) + 1) (fun v33 ev33 => ?_)
        have rv33 := xc_rng v33
        refine xi_iadd (pc' := 10) (v := v33) kc_12_9 rfl ev33 ?_
        refine xcps4 (xj_set (v := v33) hy31 ry31 2 (by first | omega | decide) (by first | omega | decide)) (fun y34 s34 hy34 ry34 => ?_)
        refine xi_iastore (pc' := 11) (x' := y34) kc_12_10 rfl A31 rfl (xi_in (by decide) (by rw [hy31]; decide)) s34 (fun hh34 eh34 => ?_)
        have K35 := xk_pa K17 (xk_wa rfl) xD_140 hy34 ry34 eh34
        refine xi_iload_n (pc' := 12) (x := (-2)) kc_12_11 rfl rfl ?_
        refine xi_ireturn kc_12_12 mr_12 rfl ?_
        show xw J ov (d + 3) 25 (33, [(0, .ref 115), (1, .int x1), (2, .int x2)], [.int (-2)], hh34) _
        refine xi_ireturn kc_25_33 mr_25 rfl ?_
        have zcm2 : ((-2) : Int32).toInt = (-2) := by decide
        exact kk (-2) hh34 K35
      · refine xi_cmf (pc' := 5) kc_11_2 rfl (xc_lt_f (X := x2.toInt) (Y := 0) rfl (by decide) (by omega)) ?_
        refine xi_iload_n (pc' := 6) (x := x2) kc_11_5 rfl rfl ?_
        refine xi_iload_n (pc' := 7) (x := 5) kc_11_6 rfl rfl ?_
        by_cases c36 : 5 < x2.toInt
        · refine xi_cmt (pc' := 14) kc_11_7 rfl (xc_gt_t (X := x2.toInt) (Y := 5) rfl (by decide) (by omega)) ?_
          refine xi_iconst (pc' := 15) (v := 0) kc_11_14 rfl rfl ?_
          refine xi_ireturn kc_11_15 mr_11 rfl ?_
          show xw J ov (d + 3) 25 (24, [(0, .ref 115), (1, .int x1), (2, .int x2)], [.int 0], hh16) _
          refine xi_iff (pc' := 27) kc_25_24 rfl rfl ?_
          refine xi_aload_n (pc' := 28) (x := 115) kc_25_27 rfl rfl ?_
          refine xi_bipush (pc' := 30) (v := (-2)) kc_25_28 rfl rfl ?_
          refine xi_virtual (mj := 12) (as := [.int (-2)]) (st1 := []) (lv0 := [(0, .ref 115), (1, .int (-2))]) kc_25_30 rfl rfl rfl rfl rfl eh15.1 (Nat.le_of_ble_eq_true rfl) (hJ _ _ _ _ (by decide)) (xm_le ml_12 rfl) rfl ?_
          refine xi_aload_n (pc' := 1) (x := 115) kc_12_0 rfl rfl ?_
          refine xi_getfield (pc' := 4) (v := .ref 140) kc_12_1 rfl rfl rfl eh15.1 rfl ?_
          refine xi_iload_n (pc' := 5) (x := (-2)) kc_12_4 rfl rfl ?_
          refine xi_ineg (pc' := 6) (v := 2) kc_12_5 rfl rfl ?_
          refine xi_dup2 (pc' := 7) kc_12_6 rfl ⟨rfl, rfl⟩ ?_
          refine xcps4 (xk_arr K17.1 xD_140) (fun y37 A37 hy37 ry37 => ?_)
          refine xcps4 (xj_get hy37 ry37 (i := 2) (by decide) (by decide)) (fun v38 ev38 bv38 dv38 => ?_)
          refine xi_iaload (pc' := 8) (v := v38) kc_12_7 rfl A37 (by decide) rfl (xi_in (by decide) (by rw [hy37]; decide)) ev38 ?_
          refine xi_iconst (pc' := 9) (v := 1) kc_12_8 rfl rfl ?_
          refine xcps2 (α := Int32) ((v38 : Int32) + 1) (fun v39 ev39 => ?_)
          have rv39 := xc_rng v39
          refine xi_iadd (pc' := 10) (v := v39) kc_12_9 rfl ev39 ?_
          refine xcps4 (xj_set (v := v39) hy37 ry37 2 (by first | omega | decide) (by first | omega | decide)) (fun y40 s40 hy40 ry40 => ?_)
          refine xi_iastore (pc' := 11) (x' := y40) kc_12_10 rfl A37 rfl (xi_in (by decide) (by rw [hy37]; decide)) s40 (fun hh40 eh40 => ?_)
          have K41 := xk_pa K17 (xk_wa rfl) xD_140 hy40 ry40 eh40
          refine xi_iload_n (pc' := 12) (x := (-2)) kc_12_11 rfl rfl ?_
          refine xi_ireturn kc_12_12 mr_12 rfl ?_
          show xw J ov (d + 3) 25 (33, [(0, .ref 115), (1, .int x1), (2, .int x2)], [.int (-2)], hh40) _
          refine xi_ireturn kc_25_33 mr_25 rfl ?_
          have zcm2 : ((-2) : Int32).toInt = (-2) := by decide
          exact kk (-2) hh40 K41
        · refine xi_cmf (pc' := 10) kc_11_7 rfl (xc_gt_f (X := x2.toInt) (Y := 5) rfl (by decide) (by omega)) ?_
          refine xi_iconst (pc' := 11) (v := 1) kc_11_10 rfl rfl ?_
          refine xi_goto (pc' := 15) kc_11_11 rfl ?_
          refine xi_ireturn kc_11_15 mr_11 rfl ?_
          show xw J ov (d + 3) 25 (24, [(0, .ref 115), (1, .int x1), (2, .int x2)], [.int 1], hh16) _
          refine xi_ift (pc' := 34) kc_25_24 rfl rfl ?_
          refine xi_iload_n (pc' := 35) (x := x2) kc_25_34 rfl rfl ?_
          by_cases c42 : x2.toInt = 0
          · refine xi_tsi (pc' := 68) (z := 0) kc_25_35 (by omega) rfl (by decide) ?_
            refine xi_aload_n (pc' := 69) (x := 115) kc_25_68 rfl rfl ?_
            refine xi_getfield (pc' := 72) (v := .ref 125) kc_25_69 rfl rfl rfl eh15.1 rfl ?_
            refine xi_iload_n (pc' := 73) (x := x1) kc_25_72 rfl rfl ?_
            refine xcps4 (xk_arr K17.1 xD_125) (fun y43 A43 hy43 ry43 => ?_)
            refine xcps4 (xj_get hy43 ry43 (i := x1) (by omega) (by omega)) (fun v44 ev44 bv44 dv44 => ?_)
            refine xi_iaload (pc' := 74) (v := v44) kc_25_73 rfl A43 (by decide) rfl (xi_in (by omega) (by rw [hy43]; omega)) ev44 ?_
            refine xi_ireturn kc_25_74 mr_25 rfl ?_
            exact kk v44 hh16 K17
          by_cases c45 : x2.toInt = 1
          · refine xi_tsi (pc' := 75) (z := 1) kc_25_35 (by omega) rfl (by decide) ?_
            refine xi_aload_n (pc' := 76) (x := 115) kc_25_75 rfl rfl ?_
            refine xi_getfield (pc' := 79) (v := .ref 126) kc_25_76 rfl rfl rfl eh15.1 rfl ?_
            refine xi_iload_n (pc' := 80) (x := x1) kc_25_79 rfl rfl ?_
            refine xcps4 (xk_arr K17.1 xD_126) (fun y46 A46 hy46 ry46 => ?_)
            refine xcps4 (xj_get hy46 ry46 (i := x1) (by omega) (by omega)) (fun v47 ev47 bv47 dv47 => ?_)
            refine xi_iaload (pc' := 81) (v := v47) kc_25_80 rfl A46 (by decide) rfl (xi_in (by omega) (by rw [hy46]; omega)) ev47 ?_
            refine xi_ireturn kc_25_81 mr_25 rfl ?_
            exact kk v47 hh16 K17
          by_cases c48 : x2.toInt = 2
          · refine xi_tsi (pc' := 82) (z := 2) kc_25_35 (by omega) rfl (by decide) ?_
            refine xi_aload_n (pc' := 83) (x := 115) kc_25_82 rfl rfl ?_
            refine xi_getfield (pc' := 86) (v := .ref 127) kc_25_83 rfl rfl rfl eh15.1 rfl ?_
            refine xi_iload_n (pc' := 87) (x := x1) kc_25_86 rfl rfl ?_
            refine xcps4 (xk_arr K17.1 xD_127) (fun y49 A49 hy49 ry49 => ?_)
            refine xcps4 (xj_get hy49 ry49 (i := x1) (by omega) (by omega)) (fun v50 ev50 bv50 dv50 => ?_)
            refine xi_baload (pc' := 88) (v := v50) kc_25_87 rfl A49 rfl (xi_in (by omega) (by rw [hy49]; omega)) ev50 ?_
            by_cases c51 : v50.toInt = 0
            · refine xi_ift (pc' := 95) kc_25_88 rfl (xc_eq_t (X := v50.toInt) (Y := 0) rfl (by decide) (by omega)) ?_
              refine xi_iconst (pc' := 96) (v := 0) kc_25_95 rfl rfl ?_
              refine xi_ireturn kc_25_96 mr_25 rfl ?_
              have zc0 : (0 : Int32).toInt = 0 := by decide
              exact kk 0 hh16 K17
            · refine xi_iff (pc' := 91) kc_25_88 rfl (xc_eq_f (X := v50.toInt) (Y := 0) rfl (by decide) (by omega)) ?_
              refine xi_iconst (pc' := 92) (v := 1) kc_25_91 rfl rfl ?_
              refine xi_goto (pc' := 96) kc_25_92 rfl ?_
              refine xi_ireturn kc_25_96 mr_25 rfl ?_
              have zc1 : (1 : Int32).toInt = 1 := by decide
              exact kk 1 hh16 K17
          by_cases c52 : x2.toInt = 3
          · refine xi_tsi (pc' := 97) (z := 3) kc_25_35 (by omega) rfl (by decide) ?_
            refine xi_aload_n (pc' := 98) (x := 115) kc_25_97 rfl rfl ?_
            refine xi_getfield (pc' := 101) (v := .ref 128) kc_25_98 rfl rfl rfl eh15.1 rfl ?_
            refine xi_iload_n (pc' := 102) (x := x1) kc_25_101 rfl rfl ?_
            refine xcps4 (xk_arr K17.1 xD_128) (fun y53 A53 hy53 ry53 => ?_)
            refine xcps4 (xj_get hy53 ry53 (i := x1) (by omega) (by omega)) (fun v54 ev54 bv54 dv54 => ?_)
            refine xi_iaload (pc' := 103) (v := v54) kc_25_102 rfl A53 (by decide) rfl (xi_in (by omega) (by rw [hy53]; omega)) ev54 ?_
            refine xi_ireturn kc_25_103 mr_25 rfl ?_
            exact kk v54 hh16 K17
          by_cases c55 : x2.toInt = 4
          · refine xi_tsi (pc' := 104) (z := 4) kc_25_35 (by omega) rfl (by decide) ?_
            refine xi_aload_n (pc' := 105) (x := 115) kc_25_104 rfl rfl ?_
            refine xi_getfield (pc' := 108) (v := .ref 129) kc_25_105 rfl rfl rfl eh15.1 rfl ?_
            refine xi_iload_n (pc' := 109) (x := x1) kc_25_108 rfl rfl ?_
            refine xcps4 (xk_arr K17.1 xD_129) (fun y56 A56 hy56 ry56 => ?_)
            refine xcps4 (xj_get hy56 ry56 (i := x1) (by omega) (by omega)) (fun v57 ev57 bv57 dv57 => ?_)
            refine xi_iaload (pc' := 110) (v := v57) kc_25_109 rfl A56 (by decide) rfl (xi_in (by omega) (by rw [hy56]; omega)) ev57 ?_
            refine xi_ireturn kc_25_110 mr_25 rfl ?_
            exact kk v57 hh16 K17
          refine xi_tsd (pc' := 111) kc_25_35 rfl (by omega) ?_
          refine xi_aload_n (pc' := 112) (x := 115) kc_25_111 rfl rfl ?_
          refine xi_getfield (pc' := 115) (v := .ref 125) kc_25_112 rfl rfl rfl eh15.1 rfl ?_
          refine xi_iload_n (pc' := 116) (x := x1) kc_25_115 rfl rfl ?_
          refine xcps4 (xk_arr K17.1 xD_125) (fun y58 A58 hy58 ry58 => ?_)
          refine xcps4 (xj_get hy58 ry58 (i := x1) (by omega) (by omega)) (fun v59 ev59 bv59 dv59 => ?_)
          refine xi_iaload (pc' := 117) (v := v59) kc_25_116 rfl A58 (by decide) rfl (xi_in (by omega) (by rw [hy58]; omega)) ev59 ?_
          by_cases c60 : 0 ≤ v59.toInt
          · refine xi_ift (pc' := 124) kc_25_117 rfl (xc_ge_t (X := v59.toInt) (Y := 0) rfl (by decide) (by omega)) ?_
            refine xi_aload_n (pc' := 125) (x := 115) kc_25_124 rfl rfl ?_
            refine xi_iload_n (pc' := 126) (x := x1) kc_25_125 rfl rfl ?_
            refine xi_aload_n (pc' := 127) (x := 115) kc_25_126 rfl rfl ?_
            refine xi_getfield (pc' := 130) (v := .int u2) kc_25_127 rfl rfl rfl eh15.1 rfl ?_
            refine xi_virtual (mj := 26) (as := [.int x1, .int u2]) (st1 := []) (lv0 := [(0, .ref 115), (1, .int x1), (2, .int u2)]) kc_25_130 rfl rfl rfl rfl rfl eh15.1 (Nat.le_of_ble_eq_true rfl) (hJ _ _ _ _ (by decide)) (xm_le ml_26 rfl) rfl ?_
            refine xi_aload_n (pc' := 1) (x := 115) kc_26_0 rfl rfl ?_
            refine xi_getfield (pc' := 4) (v := .ref 117) kc_26_1 rfl rfl rfl eh15.1 rfl ?_
            refine xi_aload_n (pc' := 5) (x := 115) kc_26_4 rfl rfl ?_
            refine xi_getfield (pc' := 8) (v := .ref 125) kc_26_5 rfl rfl rfl eh15.1 rfl ?_
            refine xi_iload_n (pc' := 9) (x := x1) kc_26_8 rfl rfl ?_
            refine xi_iaload (pc' := 10) (v := v59) kc_26_9 rfl A58 (by decide) rfl (xi_in (by omega) (by rw [hy58]; omega)) ev59 ?_
            refine xcps4 (xk_arr K17.1 xD_117) (fun y61 A61 hy61 ry61 => ?_)
            refine xcps4 (xj_get hy61 ry61 (i := v59) (by omega) (by omega)) (fun v62 ev62 bv62 dv62 => ?_)
            refine xi_iaload (pc' := 11) (v := v62) kc_26_10 rfl A61 (by decide) rfl (xi_in (by omega) (by rw [hy61]; omega)) ev62 ?_
            refine xi_aload_n (pc' := 12) (x := 115) kc_26_11 rfl rfl ?_
            refine xi_iload_n (pc' := 13) (x := u2) kc_26_12 rfl rfl ?_
            refine xi_virtual (mj := 19) (as := [.int u2]) (st1 := [.int v62]) (lv0 := [(0, .ref 115), (1, .int u2)]) kc_26_13 rfl rfl rfl rfl rfl eh15.1 (Nat.le_of_ble_eq_true rfl) (hJ _ _ _ _ (by decide)) (xm_le ml_19 rfl) rfl ?_
            refine mt_19_0 hJ hov1 hov2 (d := d) (x1 := u2) K17.1 (by first | omega | decide) (fun r63 hh64 K65 => ?_)
            have br63 := xc_rng r63
            have K66 := xk_tr K17 K65 rfl
            refine xp_115 K66.1 (fun u67 u68 u69 u70 u71 u72 u73 u74 u75 u76 u77 u78 u79 bu67 bu68 bu69 bu70 bu71 bu72 bu73 bu74 bu75 bu76 bu77 bu78 bu79 A80 => ?_)
            have e81 : u2 = u68 := xk_eqi (q := 1) K65 rfl eh15.1 A80 rfl rfl
            subst e81
            have e82 : u4 = u70 := xk_eqi (q := 18) K65 rfl eh15.1 A80 rfl rfl
            subst e82
            have A83 := xk_eqa (q := 0) K65 rfl A58
            show xw J ov (d + 2) 26 (16, [(0, .ref 115), (1, .int x1), (2, .int u2)], [.int r63, .int v62], hh64) _
            refine xcps2 (α := Int32) ((v62 : Int32) - r63) (fun v84 ev84 => ?_)
            have rv84 := xc_rng v84
            refine xi_isub (pc' := 17) (v := v84) kc_26_16 rfl ev84 ?_
            refine xi_aload_n (pc' := 18) (x := 115) kc_26_17 rfl rfl ?_
            refine xi_getfield (pc' := 21) (v := .ref 126) kc_26_18 rfl rfl rfl A80 rfl ?_
            refine xi_iload_n (pc' := 22) (x := x1) kc_26_21 rfl rfl ?_
            refine xcps4 (xk_arr K66.1 xD_126) (fun y85 A85 hy85 ry85 => ?_)
            refine xcps4 (xj_get hy85 ry85 (i := x1) (by omega) (by omega)) (fun v86 ev86 bv86 dv86 => ?_)
            refine xi_iaload (pc' := 23) (v := v86) kc_26_22 rfl A85 (by decide) rfl (xi_in (by omega) (by rw [hy85]; omega)) ev86 ?_
            refine xcps2 (α := Int32) ((v84 : Int32) * v86) (fun v87 ev87 => ?_)
            have rv87 := xc_rng v87
            refine xi_imul (pc' := 24) (v := v87) kc_26_23 rfl ev87 ?_
            refine xi_bipush (pc' := 26) (v := 100) kc_26_24 rfl rfl ?_
            refine xcps2 (α := Int32) (v87 / 100) (fun v88 ev88 => ?_)
            have dv88 : 100 * v88.toInt ≤ v87.toInt + 99 ∧ v87.toInt ≤ 100 * v88.toInt + 99 := by rw [← ev88]; exact xz_div (X := v87.toInt) (Y := 100) rfl (by decide) (by decide)
            have bv88 : -21474837 ≤ v88.toInt ∧ v88.toInt ≤ 21474837 := by omega
            refine xi_idiv (pc' := 27) (v := v88) kc_26_26 rfl ev88 (by decide) ?_
            refine xi_istore_n (pc' := 28) (lv' := [(3, .int v88), (0, .ref 115), (1, .int x1), (2, .int u2)]) kc_26_27 rfl rfl (xm_lt ml_26 rfl) ?_
            refine xi_iload_n (pc' := 29) (x := v88) kc_26_28 rfl rfl ?_
            by_cases c89 : 0 ≤ v88.toInt
            · refine xi_ift (pc' := 36) kc_26_29 rfl (xc_ge_t (X := v88.toInt) (Y := 0) rfl (by decide) (by omega)) ?_
              refine xi_iload_n (pc' := 37) (x := v88) kc_26_36 rfl rfl ?_
              refine xi_ireturn kc_26_37 mr_26 rfl ?_
              show xw J ov (d + 3) 25 (133, [(0, .ref 115), (1, .int x1), (2, .int x2)], [.int v88], hh64) _
              refine xi_ireturn kc_25_133 mr_25 rfl ?_
              exact kk v88 hh64 K66
            · refine xi_iff (pc' := 32) kc_26_29 rfl (xc_ge_f (X := v88.toInt) (Y := 0) rfl (by decide) (by omega)) ?_
              refine xi_iconst (pc' := 33) (v := 0) kc_26_32 rfl rfl ?_
              refine xi_goto (pc' := 37) kc_26_33 rfl ?_
              refine xi_ireturn kc_26_37 mr_26 rfl ?_
              show xw J ov (d + 3) 25 (133, [(0, .ref 115), (1, .int x1), (2, .int x2)], [.int 0], hh64) _
              refine xi_ireturn kc_25_133 mr_25 rfl ?_
              have zc0 : (0 : Int32).toInt = 0 := by decide
              exact kk 0 hh64 K66
          · refine xi_iff (pc' := 120) kc_25_117 rfl (xc_ge_f (X := v59.toInt) (Y := 0) rfl (by decide) (by omega)) ?_
            refine xi_iconst (pc' := 121) (v := 0) kc_25_120 rfl rfl ?_
            refine xi_goto (pc' := 133) kc_25_121 rfl ?_
            refine xi_ireturn kc_25_133 mr_25 rfl ?_
            have zc0 : (0 : Int32).toInt = 0 := by decide
            exact kk 0 hh16 K17
set_option maxHeartbeats 4000000 in
theorem mt_27_0 {J : xe_J} {ov : List (List Int32)} (hJ : ∀ d mj as h, mj ≠ xe_loff → J d mj as h = none) (hov1 : ov[1]? = some [10, 0, 0, 0, 0, 0]) (hov2 : ov[2]? = some [99, 30, 50, 50, 1, 99999]) {d : Nat} {Q : Option Value → xe_H → Prop} {h : xe_H} {x1 : Int32} (T : xt h) (kk : (∀ (r : Int32) (h' : xe_H), xk [(0, 9), (115, 1), (83, 0), (29, 0), (31, 0), (33, 0), (35, 0), (37, 0), (39, 0), (41, 0), (43, 0), (45, 0), (47, 0), (49, 0), (51, 0), (125, 0), (66, 8), (115, 18), (71, 0), (132, 0)] h h' → Q (some (.int r)) h')) : xw J ov (d + 1) 27 (0, [(0, .ref 115), (1, .int x1)], [], h) Q := by
  have K : xk [(0, 9), (115, 1), (83, 0), (29, 0), (31, 0), (33, 0), (35, 0), (37, 0), (39, 0), (41, 0), (43, 0), (45, 0), (47, 0), (49, 0), (51, 0), (125, 0), (66, 8), (115, 18), (71, 0), (132, 0)] h h := xk_re T
  have rx1 := xc_rng x1
  refine xi_aload_n (pc' := 1) (x := 115) kc_27_0 rfl rfl ?_
  refine xi_iconst (pc' := 2) (v := 0) kc_27_1 rfl rfl ?_
  refine xp_115 K.1 (fun u1 u2 u3 u4 u5 u6 u7 u8 u9 u10 u11 u12 u13 bu1 bu2 bu3 bu4 bu5 bu6 bu7 bu8 bu9 bu10 bu11 bu12 bu13 A14 => ?_)
  refine xi_putfield (pc' := 5) (fs' := [.int 0, .int u2, .ref 116, .ref 117, .ref 118, .ref 119, .ref 120, .ref 121, .ref 122, .ref 123, .ref 124, .ref 125, .ref 126, .ref 127, .ref 128, .ref 129, .int u3, .ref 130, .int u4, .ref 131, .ref 132, .ref 133, .ref 134, .int u5, .ref 135, .ref 136, .ref 137, .ref 138, .ref 139, .ref 140, .ref 141, .ref 142, .int u6, .int u7, .int u8, .ref 143, .ref 144, .ref 145, .ref 146, .ref 147, .ref 148, .int u9, .ref 149, .ref 150, .ref 151, .int u10, .ref 152, .ref 153, .ref 154, .ref 155, .ref 156, .ref 157, .ref 158, .ref 159, .int u11, .ref 160, .int u12, .ref 161, .ref 162, .ref 163, .ref 164, .int u13, .ref 165, .ref 166]) kc_27_2 rfl rfl rfl A14 rfl rfl rfl (Nat.le_of_ble_eq_true rfl) rfl (fun hh16 eh15 => ?_)
  have K17 := xk_pf (k := 0) (v := 0) K (xk_wf rfl) xD_115 A14 rfl (by first | omega | decide) (by first | omega | decide) eh15 rfl
  refine xi_iload_n (pc' := 6) (x := x1) kc_27_5 rfl rfl ?_
  refine xi_iconst (pc' := 7) (v := 1) kc_27_6 rfl rfl ?_
  by_cases c18 : 1 ≤ x1.toInt
  · refine xi_cmt (pc' := 17) kc_27_7 rfl (xc_ge_t (X := x1.toInt) (Y := 1) rfl (by decide) (by omega)) ?_
    refine xi_iload_n (pc' := 18) (x := x1) kc_27_17 rfl rfl ?_
    refine xi_bipush (pc' := 20) (v := 50) kc_27_18 rfl rfl ?_
    by_cases c19 : x1.toInt ≤ 50
    · refine xi_cmt (pc' := 30) kc_27_20 rfl (xc_le_t (X := x1.toInt) (Y := 50) rfl (by decide) (by omega)) ?_
      refine xi_aload_n (pc' := 31) (x := 115) kc_27_30 rfl rfl ?_
      refine xi_getfield (pc' := 34) (v := .int u3) kc_27_31 rfl rfl rfl eh15.1 rfl ?_
      refine xi_istore_n (pc' := 35) (lv' := [(2, .int u3), (0, .ref 115), (1, .int x1)]) kc_27_34 rfl rfl (xm_lt ml_27 rfl) ?_
      refine xi_aload_n (pc' := 36) (x := 115) kc_27_35 rfl rfl ?_
      refine xi_iload_n (pc' := 37) (x := x1) kc_27_36 rfl rfl ?_
      refine xi_putfield (pc' := 40) (fs' := [.int 0, .int u2, .ref 116, .ref 117, .ref 118, .ref 119, .ref 120, .ref 121, .ref 122, .ref 123, .ref 124, .ref 125, .ref 126, .ref 127, .ref 128, .ref 129, .int x1, .ref 130, .int u4, .ref 131, .ref 132, .ref 133, .ref 134, .int u5, .ref 135, .ref 136, .ref 137, .ref 138, .ref 139, .ref 140, .ref 141, .ref 142, .int u6, .int u7, .int u8, .ref 143, .ref 144, .ref 145, .ref 146, .ref 147, .ref 148, .int u9, .ref 149, .ref 150, .ref 151, .int u10, .ref 152, .ref 153, .ref 154, .ref 155, .ref 156, .ref 157, .ref 158, .ref 159, .int u11, .ref 160, .int u12, .ref 161, .ref 162, .ref 163, .ref 164, .int u13, .ref 165, .ref 166]) kc_27_37 rfl rfl rfl eh15.1 rfl rfl rfl (Nat.le_of_ble_eq_true rfl) rfl (fun hh21 eh20 => ?_)
      have K22 := xk_pf (k := 16) (v := x1) K17 (xk_wf rfl) xD_115 eh15.1 rfl (by first | omega | decide) (by first | omega | decide) eh20 rfl
      refine xi_aload_n (pc' := 41) (x := 115) kc_27_40 rfl rfl ?_
      refine xi_iconst (pc' := 42) (v := 0) kc_27_41 rfl rfl ?_
      refine xi_putfield (pc' := 45) (fs' := [.int 0, .int u2, .ref 116, .ref 117, .ref 118, .ref 119, .ref 120, .ref 121, .ref 122, .ref 123, .ref 124, .ref 125, .ref 126, .ref 127, .ref 128, .ref 129, .int x1, .ref 130, .int u4, .ref 131, .ref 132, .ref 133, .ref 134, .int u5, .ref 135, .ref 136, .ref 137, .ref 138, .ref 139, .ref 140, .ref 141, .ref 142, .int u6, .int u7, .int u8, .ref 143, .ref 144, .ref 145, .ref 146, .ref 147, .ref 148, .int 0, .ref 149, .ref 150, .ref 151, .int u10, .ref 152, .ref 153, .ref 154, .ref 155, .ref 156, .ref 157, .ref 158, .ref 159, .int u11, .ref 160, .int u12, .ref 161, .ref 162, .ref 163, .ref 164, .int u13, .ref 165, .ref 166]) kc_27_42 rfl rfl rfl eh20.1 rfl rfl rfl (Nat.le_of_ble_eq_true rfl) rfl (fun hh24 eh23 => ?_)
      have K25 := xk_pf (k := 41) (v := 0) K22 (xk_wf rfl) xD_115 eh20.1 rfl (by first | omega | decide) (by first | omega | decide) eh23 rfl
      refine xi_iload_n (pc' := 46) (x := u3) kc_27_45 rfl rfl ?_
      refine xi_ireturn kc_27_46 mr_27 rfl ?_
      exact kk u3 hh24 K25
    · refine xi_cmf (pc' := 23) kc_27_20 rfl (xc_le_f (X := x1.toInt) (Y := 50) rfl (by decide) (by omega)) ?_
      refine xi_aload_n (pc' := 24) (x := 115) kc_27_23 rfl rfl ?_
      refine xi_bipush (pc' := 26) (v := (-6)) kc_27_24 rfl rfl ?_
      refine xi_virtual (mj := 12) (as := [.int (-6)]) (st1 := []) (lv0 := [(0, .ref 115), (1, .int (-6))]) kc_27_26 rfl rfl rfl rfl rfl eh15.1 (Nat.le_of_ble_eq_true rfl) (hJ _ _ _ _ (by decide)) (xm_le ml_12 rfl) rfl ?_
      refine xi_aload_n (pc' := 1) (x := 115) kc_12_0 rfl rfl ?_
      refine xi_getfield (pc' := 4) (v := .ref 140) kc_12_1 rfl rfl rfl eh15.1 rfl ?_
      refine xi_iload_n (pc' := 5) (x := (-6)) kc_12_4 rfl rfl ?_
      refine xi_ineg (pc' := 6) (v := 6) kc_12_5 rfl rfl ?_
      refine xi_dup2 (pc' := 7) kc_12_6 rfl ⟨rfl, rfl⟩ ?_
      refine xcps4 (xk_arr K17.1 xD_140) (fun y26 A26 hy26 ry26 => ?_)
      refine xcps4 (xj_get hy26 ry26 (i := 6) (by decide) (by decide)) (fun v27 ev27 bv27 dv27 => ?_)
      refine xi_iaload (pc' := 8) (v := v27) kc_12_7 rfl A26 (by decide) rfl (xi_in (by decide) (by rw [hy26]; decide)) ev27 ?_
      refine xi_iconst (pc' := 9) (v := 1) kc_12_8 rfl rfl ?_
      refine xcps2 (α := Int32) ((v27 : Int32) + 1) (fun v28 ev28 => ?_)
      have rv28 := xc_rng v28
      refine xi_iadd (pc' := 10) (v := v28) kc_12_9 rfl ev28 ?_
      refine xcps4 (xj_set (v := v28) hy26 ry26 6 (by first | omega | decide) (by first | omega | decide)) (fun y29 s29 hy29 ry29 => ?_)
      refine xi_iastore (pc' := 11) (x' := y29) kc_12_10 rfl A26 rfl (xi_in (by decide) (by rw [hy26]; decide)) s29 (fun hh29 eh29 => ?_)
      have K30 := xk_pa K17 (xk_wa rfl) xD_140 hy29 ry29 eh29
      refine xi_iload_n (pc' := 12) (x := (-6)) kc_12_11 rfl rfl ?_
      refine xi_ireturn kc_12_12 mr_12 rfl ?_
      show xw J ov (d + 1) 27 (29, [(0, .ref 115), (1, .int x1)], [.int (-6)], hh29) _
      refine xi_ireturn kc_27_29 mr_27 rfl ?_
      have zcm6 : ((-6) : Int32).toInt = (-6) := by decide
      exact kk (-6) hh29 K30
  · refine xi_cmf (pc' := 10) kc_27_7 rfl (xc_ge_f (X := x1.toInt) (Y := 1) rfl (by decide) (by omega)) ?_
    refine xi_aload_n (pc' := 11) (x := 115) kc_27_10 rfl rfl ?_
    refine xi_bipush (pc' := 13) (v := (-4)) kc_27_11 rfl rfl ?_
    refine xi_virtual (mj := 12) (as := [.int (-4)]) (st1 := []) (lv0 := [(0, .ref 115), (1, .int (-4))]) kc_27_13 rfl rfl rfl rfl rfl eh15.1 (Nat.le_of_ble_eq_true rfl) (hJ _ _ _ _ (by decide)) (xm_le ml_12 rfl) rfl ?_
    refine xi_aload_n (pc' := 1) (x := 115) kc_12_0 rfl rfl ?_
    refine xi_getfield (pc' := 4) (v := .ref 140) kc_12_1 rfl rfl rfl eh15.1 rfl ?_
    refine xi_iload_n (pc' := 5) (x := (-4)) kc_12_4 rfl rfl ?_
    refine xi_ineg (pc' := 6) (v := 4) kc_12_5 rfl rfl ?_
    refine xi_dup2 (pc' := 7) kc_12_6 rfl ⟨rfl, rfl⟩ ?_
    refine xcps4 (xk_arr K17.1 xD_140) (fun y31 A31 hy31 ry31 => ?_)
    refine xcps4 (xj_get hy31 ry31 (i := 4) (by decide) (by decide)) (fun v32 ev32 bv32 dv32 => ?_)
    refine xi_iaload (pc' := 8) (v := v32) kc_12_7 rfl A31 (by decide) rfl (xi_in (by decide) (by rw [hy31]; decide)) ev32 ?_
    refine xi_iconst (pc' := 9) (v := 1) kc_12_8 rfl rfl ?_
    refine xcps2 (α := Int32) ((v32 : Int32) + 1) (fun v33 ev33 => ?_)
    have rv33 := xc_rng v33
    refine xi_iadd (pc' := 10) (v := v33) kc_12_9 rfl ev33 ?_
    refine xcps4 (xj_set (v := v33) hy31 ry31 4 (by first | omega | decide) (by first | omega | decide)) (fun y34 s34 hy34 ry34 => ?_)
    refine xi_iastore (pc' := 11) (x' := y34) kc_12_10 rfl A31 rfl (xi_in (by decide) (by rw [hy31]; decide)) s34 (fun hh34 eh34 => ?_)
    have K35 := xk_pa K17 (xk_wa rfl) xD_140 hy34 ry34 eh34
    refine xi_iload_n (pc' := 12) (x := (-4)) kc_12_11 rfl rfl ?_
    refine xi_ireturn kc_12_12 mr_12 rfl ?_
    show xw J ov (d + 1) 27 (16, [(0, .ref 115), (1, .int x1)], [.int (-4)], hh34) _
    refine xi_ireturn kc_27_16 mr_27 rfl ?_
    have zcm4 : ((-4) : Int32).toInt = (-4) := by decide
    exact kk (-4) hh34 K35
set_option maxHeartbeats 4000000 in
theorem mt_28_0 {J : xe_J} {ov : List (List Int32)} (hJ : ∀ d mj as h, mj ≠ xe_loff → J d mj as h = none) (hov1 : ov[1]? = some [10, 0, 0, 0, 0, 0]) (hov2 : ov[2]? = some [99, 30, 50, 50, 1, 99999]) {d : Nat} {Q : Option Value → xe_H → Prop} {h : xe_H} {x1 : Int32} (T : xt h) (kk : (∀ (r : Int32) (h' : xe_H), xk [(0, 9), (115, 1), (83, 0), (29, 0), (31, 0), (33, 0), (35, 0), (37, 0), (39, 0), (41, 0), (43, 0), (45, 0), (47, 0), (49, 0), (51, 0), (125, 0), (66, 8), (115, 18), (71, 0), (132, 0)] h h' → Q (some (.int r)) h')) : xw J ov (d + 2) 28 (0, [(0, .ref 115), (1, .int x1)], [], h) Q := by
  have K : xk [(0, 9), (115, 1), (83, 0), (29, 0), (31, 0), (33, 0), (35, 0), (37, 0), (39, 0), (41, 0), (43, 0), (45, 0), (47, 0), (49, 0), (51, 0), (125, 0), (66, 8), (115, 18), (71, 0), (132, 0)] h h := xk_re T
  have rx1 := xc_rng x1
  refine xi_aload_n (pc' := 1) (x := 115) kc_28_0 rfl rfl ?_
  refine xi_iconst (pc' := 2) (v := 0) kc_28_1 rfl rfl ?_
  refine xp_115 K.1 (fun u1 u2 u3 u4 u5 u6 u7 u8 u9 u10 u11 u12 u13 bu1 bu2 bu3 bu4 bu5 bu6 bu7 bu8 bu9 bu10 bu11 bu12 bu13 A14 => ?_)
  refine xi_putfield (pc' := 5) (fs' := [.int 0, .int u2, .ref 116, .ref 117, .ref 118, .ref 119, .ref 120, .ref 121, .ref 122, .ref 123, .ref 124, .ref 125, .ref 126, .ref 127, .ref 128, .ref 129, .int u3, .ref 130, .int u4, .ref 131, .ref 132, .ref 133, .ref 134, .int u5, .ref 135, .ref 136, .ref 137, .ref 138, .ref 139, .ref 140, .ref 141, .ref 142, .int u6, .int u7, .int u8, .ref 143, .ref 144, .ref 145, .ref 146, .ref 147, .ref 148, .int u9, .ref 149, .ref 150, .ref 151, .int u10, .ref 152, .ref 153, .ref 154, .ref 155, .ref 156, .ref 157, .ref 158, .ref 159, .int u11, .ref 160, .int u12, .ref 161, .ref 162, .ref 163, .ref 164, .int u13, .ref 165, .ref 166]) kc_28_2 rfl rfl rfl A14 rfl rfl rfl (Nat.le_of_ble_eq_true rfl) rfl (fun hh16 eh15 => ?_)
  have K17 := xk_pf (k := 0) (v := 0) K (xk_wf rfl) xD_115 A14 rfl (by first | omega | decide) (by first | omega | decide) eh15 rfl
  refine xi_iload_n (pc' := 6) (x := x1) kc_28_5 rfl rfl ?_
  refine xi_static (mj := 24) (as := [.int x1]) (st1 := []) (lv0 := [(0, .int x1)]) kc_28_6 rfl rfl (Nat.le_of_ble_eq_true rfl) rfl rfl (Nat.le_of_ble_eq_true rfl) (hJ _ _ _ _ (by decide)) (xm_le ml_24 rfl) rfl ?_
  refine xi_iload_n (pc' := 1) (x := x1) kc_24_0 rfl rfl ?_
  refine xi_iconst (pc' := 2) (v := 0) kc_24_1 rfl rfl ?_
  refine xi_bipush (pc' := 4) (v := 11) kc_24_2 rfl rfl ?_
  refine xi_static (mj := 11) (as := [.int x1, .int 0, .int 11]) (st1 := []) (lv0 := [(0, .int x1), (1, .int 0), (2, .int 11)]) kc_24_4 rfl rfl (Nat.le_of_ble_eq_true rfl) rfl rfl (Nat.le_of_ble_eq_true rfl) (hJ _ _ _ _ (by decide)) (xm_le ml_11 rfl) rfl ?_
  refine xi_iload_n (pc' := 1) (x := x1) kc_11_0 rfl rfl ?_
  refine xi_iload_n (pc' := 2) (x := 0) kc_11_1 rfl rfl ?_
  by_cases c18 : x1.toInt < 0
  · refine xi_cmt (pc' := 14) kc_11_2 rfl (xc_lt_t (X := x1.toInt) (Y := 0) rfl (by decide) (by omega)) ?_
    refine xi_iconst (pc' := 15) (v := 0) kc_11_14 rfl rfl ?_
    refine xi_ireturn kc_11_15 mr_11 rfl ?_
    show xw J ov (d + 1) 24 (7, [(0, .int x1)], [.int 0], hh16) _
    refine xi_ireturn kc_24_7 mr_24 rfl ?_
    show xw J ov (d + 2) 28 (9, [(0, .ref 115), (1, .int x1)], [.int 0], hh16) _
    refine xi_iff (pc' := 12) kc_28_9 rfl rfl ?_
    refine xi_aload_n (pc' := 13) (x := 115) kc_28_12 rfl rfl ?_
    refine xi_iconst (pc' := 14) (v := (-1)) kc_28_13 rfl rfl ?_
    refine xi_virtual (mj := 12) (as := [.int (-1)]) (st1 := []) (lv0 := [(0, .ref 115), (1, .int (-1))]) kc_28_14 rfl rfl rfl rfl rfl eh15.1 (Nat.le_of_ble_eq_true rfl) (hJ _ _ _ _ (by decide)) (xm_le ml_12 rfl) rfl ?_
    refine xi_aload_n (pc' := 1) (x := 115) kc_12_0 rfl rfl ?_
    refine xi_getfield (pc' := 4) (v := .ref 140) kc_12_1 rfl rfl rfl eh15.1 rfl ?_
    refine xi_iload_n (pc' := 5) (x := (-1)) kc_12_4 rfl rfl ?_
    refine xi_ineg (pc' := 6) (v := 1) kc_12_5 rfl rfl ?_
    refine xi_dup2 (pc' := 7) kc_12_6 rfl ⟨rfl, rfl⟩ ?_
    refine xcps4 (xk_arr K17.1 xD_140) (fun y19 A19 hy19 ry19 => ?_)
    refine xcps4 (xj_get hy19 ry19 (i := 1) (by decide) (by decide)) (fun v20 ev20 bv20 dv20 => ?_)
    refine xi_iaload (pc' := 8) (v := v20) kc_12_7 rfl A19 (by decide) rfl (xi_in (by decide) (by rw [hy19]; decide)) ev20 ?_
    refine xi_iconst (pc' := 9) (v := 1) kc_12_8 rfl rfl ?_
    refine xcps2 (α := Int32) ((v20 : Int32) + 1) (fun v21 ev21 => ?_)
    have rv21 := xc_rng v21
    refine xi_iadd (pc' := 10) (v := v21) kc_12_9 rfl ev21 ?_
    refine xcps4 (xj_set (v := v21) hy19 ry19 1 (by first | omega | decide) (by first | omega | decide)) (fun y22 s22 hy22 ry22 => ?_)
    refine xi_iastore (pc' := 11) (x' := y22) kc_12_10 rfl A19 rfl (xi_in (by decide) (by rw [hy19]; decide)) s22 (fun hh22 eh22 => ?_)
    have K23 := xk_pa K17 (xk_wa rfl) xD_140 hy22 ry22 eh22
    refine xi_iload_n (pc' := 12) (x := (-1)) kc_12_11 rfl rfl ?_
    refine xi_ireturn kc_12_12 mr_12 rfl ?_
    show xw J ov (d + 2) 28 (17, [(0, .ref 115), (1, .int x1)], [.int (-1)], hh22) _
    refine xi_ireturn kc_28_17 mr_28 rfl ?_
    have zcm1 : ((-1) : Int32).toInt = (-1) := by decide
    exact kk (-1) hh22 K23
  · refine xi_cmf (pc' := 5) kc_11_2 rfl (xc_lt_f (X := x1.toInt) (Y := 0) rfl (by decide) (by omega)) ?_
    refine xi_iload_n (pc' := 6) (x := x1) kc_11_5 rfl rfl ?_
    refine xi_iload_n (pc' := 7) (x := 11) kc_11_6 rfl rfl ?_
    by_cases c24 : 11 < x1.toInt
    · refine xi_cmt (pc' := 14) kc_11_7 rfl (xc_gt_t (X := x1.toInt) (Y := 11) rfl (by decide) (by omega)) ?_
      refine xi_iconst (pc' := 15) (v := 0) kc_11_14 rfl rfl ?_
      refine xi_ireturn kc_11_15 mr_11 rfl ?_
      show xw J ov (d + 1) 24 (7, [(0, .int x1)], [.int 0], hh16) _
      refine xi_ireturn kc_24_7 mr_24 rfl ?_
      show xw J ov (d + 2) 28 (9, [(0, .ref 115), (1, .int x1)], [.int 0], hh16) _
      refine xi_iff (pc' := 12) kc_28_9 rfl rfl ?_
      refine xi_aload_n (pc' := 13) (x := 115) kc_28_12 rfl rfl ?_
      refine xi_iconst (pc' := 14) (v := (-1)) kc_28_13 rfl rfl ?_
      refine xi_virtual (mj := 12) (as := [.int (-1)]) (st1 := []) (lv0 := [(0, .ref 115), (1, .int (-1))]) kc_28_14 rfl rfl rfl rfl rfl eh15.1 (Nat.le_of_ble_eq_true rfl) (hJ _ _ _ _ (by decide)) (xm_le ml_12 rfl) rfl ?_
      refine xi_aload_n (pc' := 1) (x := 115) kc_12_0 rfl rfl ?_
      refine xi_getfield (pc' := 4) (v := .ref 140) kc_12_1 rfl rfl rfl eh15.1 rfl ?_
      refine xi_iload_n (pc' := 5) (x := (-1)) kc_12_4 rfl rfl ?_
      refine xi_ineg (pc' := 6) (v := 1) kc_12_5 rfl rfl ?_
      refine xi_dup2 (pc' := 7) kc_12_6 rfl ⟨rfl, rfl⟩ ?_
      refine xcps4 (xk_arr K17.1 xD_140) (fun y25 A25 hy25 ry25 => ?_)
      refine xcps4 (xj_get hy25 ry25 (i := 1) (by decide) (by decide)) (fun v26 ev26 bv26 dv26 => ?_)
      refine xi_iaload (pc' := 8) (v := v26) kc_12_7 rfl A25 (by decide) rfl (xi_in (by decide) (by rw [hy25]; decide)) ev26 ?_
      refine xi_iconst (pc' := 9) (v := 1) kc_12_8 rfl rfl ?_
      refine xcps2 (α := Int32) ((v26 : Int32) + 1) (fun v27 ev27 => ?_)
      have rv27 := xc_rng v27
      refine xi_iadd (pc' := 10) (v := v27) kc_12_9 rfl ev27 ?_
      refine xcps4 (xj_set (v := v27) hy25 ry25 1 (by first | omega | decide) (by first | omega | decide)) (fun y28 s28 hy28 ry28 => ?_)
      refine xi_iastore (pc' := 11) (x' := y28) kc_12_10 rfl A25 rfl (xi_in (by decide) (by rw [hy25]; decide)) s28 (fun hh28 eh28 => ?_)
      have K29 := xk_pa K17 (xk_wa rfl) xD_140 hy28 ry28 eh28
      refine xi_iload_n (pc' := 12) (x := (-1)) kc_12_11 rfl rfl ?_
      refine xi_ireturn kc_12_12 mr_12 rfl ?_
      show xw J ov (d + 2) 28 (17, [(0, .ref 115), (1, .int x1)], [.int (-1)], hh28) _
      refine xi_ireturn kc_28_17 mr_28 rfl ?_
      have zcm1 : ((-1) : Int32).toInt = (-1) := by decide
      exact kk (-1) hh28 K29
    · refine xi_cmf (pc' := 10) kc_11_7 rfl (xc_gt_f (X := x1.toInt) (Y := 11) rfl (by decide) (by omega)) ?_
      refine xi_iconst (pc' := 11) (v := 1) kc_11_10 rfl rfl ?_
      refine xi_goto (pc' := 15) kc_11_11 rfl ?_
      refine xi_ireturn kc_11_15 mr_11 rfl ?_
      show xw J ov (d + 1) 24 (7, [(0, .int x1)], [.int 1], hh16) _
      refine xi_ireturn kc_24_7 mr_24 rfl ?_
      show xw J ov (d + 2) 28 (9, [(0, .ref 115), (1, .int x1)], [.int 1], hh16) _
      refine xi_ift (pc' := 18) kc_28_9 rfl rfl ?_
      refine xi_aload_n (pc' := 19) (x := 115) kc_28_18 rfl rfl ?_
      refine xi_getfield (pc' := 22) (v := .ref 129) kc_28_19 rfl rfl rfl eh15.1 rfl ?_
      refine xi_iload_n (pc' := 23) (x := x1) kc_28_22 rfl rfl ?_
      refine xcps4 (xk_arr K17.1 xD_129) (fun y30 A30 hy30 ry30 => ?_)
      refine xcps4 (xj_get hy30 ry30 (i := x1) (by omega) (by omega)) (fun v31 ev31 bv31 dv31 => ?_)
      refine xi_iaload (pc' := 24) (v := v31) kc_28_23 rfl A30 (by decide) rfl (xi_in (by omega) (by rw [hy30]; omega)) ev31 ?_
      refine xi_istore_n (pc' := 25) (lv' := [(2, .int v31), (0, .ref 115), (1, .int x1)]) kc_28_24 rfl rfl (xm_lt ml_28 rfl) ?_
      refine xi_aload_n (pc' := 26) (x := 115) kc_28_25 rfl rfl ?_
      refine xi_getfield (pc' := 29) (v := .ref 129) kc_28_26 rfl rfl rfl eh15.1 rfl ?_
      refine xi_iload_n (pc' := 30) (x := x1) kc_28_29 rfl rfl ?_
      refine xi_iconst (pc' := 31) (v := 0) kc_28_30 rfl rfl ?_
      refine xcps4 (xj_set (v := 0) hy30 ry30 x1 (by first | omega | decide) (by first | omega | decide)) (fun y32 s32 hy32 ry32 => ?_)
      refine xi_iastore (pc' := 32) (x' := y32) kc_28_31 rfl A30 rfl (xi_in (by omega) (by rw [hy30]; omega)) s32 (fun hh32 eh32 => ?_)
      have K33 := xk_pa K17 (xk_wa rfl) xD_129 hy32 ry32 eh32
      refine xi_iload_n (pc' := 33) (x := v31) kc_28_32 rfl rfl ?_
      refine xi_ireturn kc_28_33 mr_28 rfl ?_
      exact kk v31 hh32 K33
set_option maxHeartbeats 4000000 in
theorem mt_29_0 {J : xe_J} {ov : List (List Int32)} (hJ : ∀ d mj as h, mj ≠ xe_loff → J d mj as h = none) (hov1 : ov[1]? = some [10, 0, 0, 0, 0, 0]) (hov2 : ov[2]? = some [99, 30, 50, 50, 1, 99999]) {d : Nat} {Q : Option Value → xe_H → Prop} {h : xe_H} {x1 : Int32} (T : xt h) (kk : (∀ (r : Int32) (h' : xe_H), xk [(0, 9), (115, 1), (83, 0), (29, 0), (31, 0), (33, 0), (35, 0), (37, 0), (39, 0), (41, 0), (43, 0), (45, 0), (47, 0), (49, 0), (51, 0), (125, 0), (66, 8), (115, 18), (71, 0), (132, 0)] h h' → Q (some (.int r)) h')) : xw J ov (d + 2) 29 (0, [(0, .ref 115), (1, .int x1)], [], h) Q := by
  have K : xk [(0, 9), (115, 1), (83, 0), (29, 0), (31, 0), (33, 0), (35, 0), (37, 0), (39, 0), (41, 0), (43, 0), (45, 0), (47, 0), (49, 0), (51, 0), (125, 0), (66, 8), (115, 18), (71, 0), (132, 0)] h h := xk_re T
  have rx1 := xc_rng x1
  refine xi_aload_n (pc' := 1) (x := 115) kc_29_0 rfl rfl ?_
  refine xi_iconst (pc' := 2) (v := 0) kc_29_1 rfl rfl ?_
  refine xp_115 K.1 (fun u1 u2 u3 u4 u5 u6 u7 u8 u9 u10 u11 u12 u13 bu1 bu2 bu3 bu4 bu5 bu6 bu7 bu8 bu9 bu10 bu11 bu12 bu13 A14 => ?_)
  refine xi_putfield (pc' := 5) (fs' := [.int 0, .int u2, .ref 116, .ref 117, .ref 118, .ref 119, .ref 120, .ref 121, .ref 122, .ref 123, .ref 124, .ref 125, .ref 126, .ref 127, .ref 128, .ref 129, .int u3, .ref 130, .int u4, .ref 131, .ref 132, .ref 133, .ref 134, .int u5, .ref 135, .ref 136, .ref 137, .ref 138, .ref 139, .ref 140, .ref 141, .ref 142, .int u6, .int u7, .int u8, .ref 143, .ref 144, .ref 145, .ref 146, .ref 147, .ref 148, .int u9, .ref 149, .ref 150, .ref 151, .int u10, .ref 152, .ref 153, .ref 154, .ref 155, .ref 156, .ref 157, .ref 158, .ref 159, .int u11, .ref 160, .int u12, .ref 161, .ref 162, .ref 163, .ref 164, .int u13, .ref 165, .ref 166]) kc_29_2 rfl rfl rfl A14 rfl rfl rfl (Nat.le_of_ble_eq_true rfl) rfl (fun hh16 eh15 => ?_)
  have K17 := xk_pf (k := 0) (v := 0) K (xk_wf rfl) xD_115 A14 rfl (by first | omega | decide) (by first | omega | decide) eh15 rfl
  refine xi_iload_n (pc' := 6) (x := x1) kc_29_5 rfl rfl ?_
  refine xi_static (mj := 10) (as := [.int x1]) (st1 := []) (lv0 := [(0, .int x1)]) kc_29_6 rfl rfl (Nat.le_of_ble_eq_true rfl) rfl rfl (Nat.le_of_ble_eq_true rfl) (hJ _ _ _ _ (by decide)) (xm_le ml_10 rfl) rfl ?_
  refine xi_iload_n (pc' := 1) (x := x1) kc_10_0 rfl rfl ?_
  refine xi_iconst (pc' := 2) (v := 0) kc_10_1 rfl rfl ?_
  refine xi_iconst (pc' := 3) (v := 5) kc_10_2 rfl rfl ?_
  refine xi_static (mj := 11) (as := [.int x1, .int 0, .int 5]) (st1 := []) (lv0 := [(0, .int x1), (1, .int 0), (2, .int 5)]) kc_10_3 rfl rfl (Nat.le_of_ble_eq_true rfl) rfl rfl (Nat.le_of_ble_eq_true rfl) (hJ _ _ _ _ (by decide)) (xm_le ml_11 rfl) rfl ?_
  refine xi_iload_n (pc' := 1) (x := x1) kc_11_0 rfl rfl ?_
  refine xi_iload_n (pc' := 2) (x := 0) kc_11_1 rfl rfl ?_
  by_cases c18 : x1.toInt < 0
  · refine xi_cmt (pc' := 14) kc_11_2 rfl (xc_lt_t (X := x1.toInt) (Y := 0) rfl (by decide) (by omega)) ?_
    refine xi_iconst (pc' := 15) (v := 0) kc_11_14 rfl rfl ?_
    refine xi_ireturn kc_11_15 mr_11 rfl ?_
    show xw J ov (d + 1) 10 (6, [(0, .int x1)], [.int 0], hh16) _
    refine xi_ireturn kc_10_6 mr_10 rfl ?_
    show xw J ov (d + 2) 29 (9, [(0, .ref 115), (1, .int x1)], [.int 0], hh16) _
    refine xi_ift (pc' := 21) kc_29_9 rfl rfl ?_
    refine xi_aload_n (pc' := 22) (x := 115) kc_29_21 rfl rfl ?_
    refine xi_iconst (pc' := 23) (v := (-1)) kc_29_22 rfl rfl ?_
    refine xi_virtual (mj := 12) (as := [.int (-1)]) (st1 := []) (lv0 := [(0, .ref 115), (1, .int (-1))]) kc_29_23 rfl rfl rfl rfl rfl eh15.1 (Nat.le_of_ble_eq_true rfl) (hJ _ _ _ _ (by decide)) (xm_le ml_12 rfl) rfl ?_
    refine xi_aload_n (pc' := 1) (x := 115) kc_12_0 rfl rfl ?_
    refine xi_getfield (pc' := 4) (v := .ref 140) kc_12_1 rfl rfl rfl eh15.1 rfl ?_
    refine xi_iload_n (pc' := 5) (x := (-1)) kc_12_4 rfl rfl ?_
    refine xi_ineg (pc' := 6) (v := 1) kc_12_5 rfl rfl ?_
    refine xi_dup2 (pc' := 7) kc_12_6 rfl ⟨rfl, rfl⟩ ?_
    refine xcps4 (xk_arr K17.1 xD_140) (fun y19 A19 hy19 ry19 => ?_)
    refine xcps4 (xj_get hy19 ry19 (i := 1) (by decide) (by decide)) (fun v20 ev20 bv20 dv20 => ?_)
    refine xi_iaload (pc' := 8) (v := v20) kc_12_7 rfl A19 (by decide) rfl (xi_in (by decide) (by rw [hy19]; decide)) ev20 ?_
    refine xi_iconst (pc' := 9) (v := 1) kc_12_8 rfl rfl ?_
    refine xcps2 (α := Int32) ((v20 : Int32) + 1) (fun v21 ev21 => ?_)
    have rv21 := xc_rng v21
    refine xi_iadd (pc' := 10) (v := v21) kc_12_9 rfl ev21 ?_
    refine xcps4 (xj_set (v := v21) hy19 ry19 1 (by first | omega | decide) (by first | omega | decide)) (fun y22 s22 hy22 ry22 => ?_)
    refine xi_iastore (pc' := 11) (x' := y22) kc_12_10 rfl A19 rfl (xi_in (by decide) (by rw [hy19]; decide)) s22 (fun hh22 eh22 => ?_)
    have K23 := xk_pa K17 (xk_wa rfl) xD_140 hy22 ry22 eh22
    refine xi_iload_n (pc' := 12) (x := (-1)) kc_12_11 rfl rfl ?_
    refine xi_ireturn kc_12_12 mr_12 rfl ?_
    show xw J ov (d + 2) 29 (26, [(0, .ref 115), (1, .int x1)], [.int (-1)], hh22) _
    refine xi_ireturn kc_29_26 mr_29 rfl ?_
    have zcm1 : ((-1) : Int32).toInt = (-1) := by decide
    exact kk (-1) hh22 K23
  · refine xi_cmf (pc' := 5) kc_11_2 rfl (xc_lt_f (X := x1.toInt) (Y := 0) rfl (by decide) (by omega)) ?_
    refine xi_iload_n (pc' := 6) (x := x1) kc_11_5 rfl rfl ?_
    refine xi_iload_n (pc' := 7) (x := 5) kc_11_6 rfl rfl ?_
    by_cases c24 : 5 < x1.toInt
    · refine xi_cmt (pc' := 14) kc_11_7 rfl (xc_gt_t (X := x1.toInt) (Y := 5) rfl (by decide) (by omega)) ?_
      refine xi_iconst (pc' := 15) (v := 0) kc_11_14 rfl rfl ?_
      refine xi_ireturn kc_11_15 mr_11 rfl ?_
      show xw J ov (d + 1) 10 (6, [(0, .int x1)], [.int 0], hh16) _
      refine xi_ireturn kc_10_6 mr_10 rfl ?_
      show xw J ov (d + 2) 29 (9, [(0, .ref 115), (1, .int x1)], [.int 0], hh16) _
      refine xi_ift (pc' := 21) kc_29_9 rfl rfl ?_
      refine xi_aload_n (pc' := 22) (x := 115) kc_29_21 rfl rfl ?_
      refine xi_iconst (pc' := 23) (v := (-1)) kc_29_22 rfl rfl ?_
      refine xi_virtual (mj := 12) (as := [.int (-1)]) (st1 := []) (lv0 := [(0, .ref 115), (1, .int (-1))]) kc_29_23 rfl rfl rfl rfl rfl eh15.1 (Nat.le_of_ble_eq_true rfl) (hJ _ _ _ _ (by decide)) (xm_le ml_12 rfl) rfl ?_
      refine xi_aload_n (pc' := 1) (x := 115) kc_12_0 rfl rfl ?_
      refine xi_getfield (pc' := 4) (v := .ref 140) kc_12_1 rfl rfl rfl eh15.1 rfl ?_
      refine xi_iload_n (pc' := 5) (x := (-1)) kc_12_4 rfl rfl ?_
      refine xi_ineg (pc' := 6) (v := 1) kc_12_5 rfl rfl ?_
      refine xi_dup2 (pc' := 7) kc_12_6 rfl ⟨rfl, rfl⟩ ?_
      refine xcps4 (xk_arr K17.1 xD_140) (fun y25 A25 hy25 ry25 => ?_)
      refine xcps4 (xj_get hy25 ry25 (i := 1) (by decide) (by decide)) (fun v26 ev26 bv26 dv26 => ?_)
      refine xi_iaload (pc' := 8) (v := v26) kc_12_7 rfl A25 (by decide) rfl (xi_in (by decide) (by rw [hy25]; decide)) ev26 ?_
      refine xi_iconst (pc' := 9) (v := 1) kc_12_8 rfl rfl ?_
      refine xcps2 (α := Int32) ((v26 : Int32) + 1) (fun v27 ev27 => ?_)
      have rv27 := xc_rng v27
      refine xi_iadd (pc' := 10) (v := v27) kc_12_9 rfl ev27 ?_
      refine xcps4 (xj_set (v := v27) hy25 ry25 1 (by first | omega | decide) (by first | omega | decide)) (fun y28 s28 hy28 ry28 => ?_)
      refine xi_iastore (pc' := 11) (x' := y28) kc_12_10 rfl A25 rfl (xi_in (by decide) (by rw [hy25]; decide)) s28 (fun hh28 eh28 => ?_)
      have K29 := xk_pa K17 (xk_wa rfl) xD_140 hy28 ry28 eh28
      refine xi_iload_n (pc' := 12) (x := (-1)) kc_12_11 rfl rfl ?_
      refine xi_ireturn kc_12_12 mr_12 rfl ?_
      show xw J ov (d + 2) 29 (26, [(0, .ref 115), (1, .int x1)], [.int (-1)], hh28) _
      refine xi_ireturn kc_29_26 mr_29 rfl ?_
      have zcm1 : ((-1) : Int32).toInt = (-1) := by decide
      exact kk (-1) hh28 K29
    · refine xi_cmf (pc' := 10) kc_11_7 rfl (xc_gt_f (X := x1.toInt) (Y := 5) rfl (by decide) (by omega)) ?_
      refine xi_iconst (pc' := 11) (v := 1) kc_11_10 rfl rfl ?_
      refine xi_goto (pc' := 15) kc_11_11 rfl ?_
      refine xi_ireturn kc_11_15 mr_11 rfl ?_
      show xw J ov (d + 1) 10 (6, [(0, .int x1)], [.int 1], hh16) _
      refine xi_ireturn kc_10_6 mr_10 rfl ?_
      show xw J ov (d + 2) 29 (9, [(0, .ref 115), (1, .int x1)], [.int 1], hh16) _
      refine xi_iff (pc' := 12) kc_29_9 rfl rfl ?_
      refine xi_aload_n (pc' := 13) (x := 115) kc_29_12 rfl rfl ?_
      refine xi_getfield (pc' := 16) (v := .ref 121) kc_29_13 rfl rfl rfl eh15.1 rfl ?_
      refine xi_iload_n (pc' := 17) (x := x1) kc_29_16 rfl rfl ?_
      refine xcps4 (xk_arr K17.1 xD_121) (fun y30 A30 hy30 ry30 => ?_)
      refine xcps4 (xj_get hy30 ry30 (i := x1) (by omega) (by omega)) (fun v31 ev31 bv31 dv31 => ?_)
      refine xi_iaload (pc' := 18) (v := v31) kc_29_17 rfl A30 (by decide) rfl (xi_in (by omega) (by rw [hy30]; omega)) ev31 ?_
      refine xi_goto (pc' := 26) kc_29_18 rfl ?_
      refine xi_ireturn kc_29_26 mr_29 rfl ?_
      exact kk v31 hh16 K17
set_option maxHeartbeats 4000000 in
theorem mt_30_0 {J : xe_J} {ov : List (List Int32)} (hJ : ∀ d mj as h, mj ≠ xe_loff → J d mj as h = none) (hov1 : ov[1]? = some [10, 0, 0, 0, 0, 0]) (hov2 : ov[2]? = some [99, 30, 50, 50, 1, 99999]) {d : Nat} {Q : Option Value → xe_H → Prop} {h : xe_H} {x1 : Int32} {x2 : Int32} {x3 : Int32} {x4 : Int32} (T : xt h) (kk : (∀ (r : Int32) (h' : xe_H), ((-6) ≤ r.toInt ∧ r.toInt ≤ 59) → xk [(0, 9), (115, 1), (83, 0), (29, 0), (31, 0), (33, 0), (35, 0), (37, 0), (39, 0), (41, 0), (43, 0), (45, 0), (47, 0), (49, 0), (51, 0), (125, 0), (66, 8), (71, 0)] h h' → Q (some (.int r)) h')) : xw J ov (d + 3) 30 (0, [(0, .ref 115), (1, .int x1), (2, .int x2), (3, .int x3), (4, .int x4)], [], h) Q := by
  have K : xk [(0, 9), (115, 1), (83, 0), (29, 0), (31, 0), (33, 0), (35, 0), (37, 0), (39, 0), (41, 0), (43, 0), (45, 0), (47, 0), (49, 0), (51, 0), (125, 0), (66, 8), (71, 0)] h h := xk_re T
  have rx1 := xc_rng x1
  have rx2 := xc_rng x2
  have rx3 := xc_rng x3
  have rx4 := xc_rng x4
  refine xi_aload_n (pc' := 1) (x := 115) kc_30_0 rfl rfl ?_
  refine xi_iconst (pc' := 2) (v := 0) kc_30_1 rfl rfl ?_
  refine xp_115 K.1 (fun u1 u2 u3 u4 u5 u6 u7 u8 u9 u10 u11 u12 u13 bu1 bu2 bu3 bu4 bu5 bu6 bu7 bu8 bu9 bu10 bu11 bu12 bu13 A14 => ?_)
  refine xi_putfield (pc' := 5) (fs' := [.int 0, .int u2, .ref 116, .ref 117, .ref 118, .ref 119, .ref 120, .ref 121, .ref 122, .ref 123, .ref 124, .ref 125, .ref 126, .ref 127, .ref 128, .ref 129, .int u3, .ref 130, .int u4, .ref 131, .ref 132, .ref 133, .ref 134, .int u5, .ref 135, .ref 136, .ref 137, .ref 138, .ref 139, .ref 140, .ref 141, .ref 142, .int u6, .int u7, .int u8, .ref 143, .ref 144, .ref 145, .ref 146, .ref 147, .ref 148, .int u9, .ref 149, .ref 150, .ref 151, .int u10, .ref 152, .ref 153, .ref 154, .ref 155, .ref 156, .ref 157, .ref 158, .ref 159, .int u11, .ref 160, .int u12, .ref 161, .ref 162, .ref 163, .ref 164, .int u13, .ref 165, .ref 166]) kc_30_2 rfl rfl rfl A14 rfl rfl rfl (Nat.le_of_ble_eq_true rfl) rfl (fun hh16 eh15 => ?_)
  have K17 := xk_pf (k := 0) (v := 0) K (xk_wf rfl) xD_115 A14 rfl (by first | omega | decide) (by first | omega | decide) eh15 rfl
  refine xi_aload_n (pc' := 6) (x := 115) kc_30_5 rfl rfl ?_
  refine xi_iload_n (pc' := 7) (x := x1) kc_30_6 rfl rfl ?_
  refine xi_virtual (mj := 31) (as := [.int x1]) (st1 := []) (lv0 := [(0, .ref 115), (1, .int x1)]) kc_30_7 rfl rfl rfl rfl rfl eh15.1 (Nat.le_of_ble_eq_true rfl) (hJ _ _ _ _ (by decide)) (xm_le ml_31 rfl) rfl ?_
  refine xi_iload_n (pc' := 1) (x := x1) kc_31_0 rfl rfl ?_
  refine xi_static (mj := 24) (as := [.int x1]) (st1 := []) (lv0 := [(0, .int x1)]) kc_31_1 rfl rfl (Nat.le_of_ble_eq_true rfl) rfl rfl (Nat.le_of_ble_eq_true rfl) (hJ _ _ _ _ (by decide)) (xm_le ml_24 rfl) rfl ?_
  refine xi_iload_n (pc' := 1) (x := x1) kc_24_0 rfl rfl ?_
  refine xi_iconst (pc' := 2) (v := 0) kc_24_1 rfl rfl ?_
  refine xi_bipush (pc' := 4) (v := 11) kc_24_2 rfl rfl ?_
  refine xi_static (mj := 11) (as := [.int x1, .int 0, .int 11]) (st1 := []) (lv0 := [(0, .int x1), (1, .int 0), (2, .int 11)]) kc_24_4 rfl rfl (Nat.le_of_ble_eq_true rfl) rfl rfl (Nat.le_of_ble_eq_true rfl) (hJ _ _ _ _ (by decide)) (xm_le ml_11 rfl) rfl ?_
  refine xi_iload_n (pc' := 1) (x := x1) kc_11_0 rfl rfl ?_
  refine xi_iload_n (pc' := 2) (x := 0) kc_11_1 rfl rfl ?_
  by_cases c18 : x1.toInt < 0
  · refine xi_cmt (pc' := 14) kc_11_2 rfl (xc_lt_t (X := x1.toInt) (Y := 0) rfl (by decide) (by omega)) ?_
    refine xi_iconst (pc' := 15) (v := 0) kc_11_14 rfl rfl ?_
    refine xi_ireturn kc_11_15 mr_11 rfl ?_
    show xw J ov (d + 1) 24 (7, [(0, .int x1)], [.int 0], hh16) _
    refine xi_ireturn kc_24_7 mr_24 rfl ?_
    show xw J ov (d + 2) 31 (4, [(0, .ref 115), (1, .int x1)], [.int 0], hh16) _
    refine xi_ift (pc' := 20) kc_31_4 rfl rfl ?_
    refine xi_iconst (pc' := 21) (v := 0) kc_31_20 rfl rfl ?_
    refine xi_ireturn kc_31_21 mr_31 rfl ?_
    show xw J ov (d + 3) 30 (10, [(0, .ref 115), (1, .int x1), (2, .int x2), (3, .int x3), (4, .int x4)], [.int 0], hh16) _
    refine xi_iff (pc' := 13) kc_30_10 rfl rfl ?_
    refine xi_aload_n (pc' := 14) (x := 115) kc_30_13 rfl rfl ?_
    refine xi_iconst (pc' := 15) (v := (-1)) kc_30_14 rfl rfl ?_
    refine xi_virtual (mj := 12) (as := [.int (-1)]) (st1 := []) (lv0 := [(0, .ref 115), (1, .int (-1))]) kc_30_15 rfl rfl rfl rfl rfl eh15.1 (Nat.le_of_ble_eq_true rfl) (hJ _ _ _ _ (by decide)) (xm_le ml_12 rfl) rfl ?_
    refine xi_aload_n (pc' := 1) (x := 115) kc_12_0 rfl rfl ?_
    refine xi_getfield (pc' := 4) (v := .ref 140) kc_12_1 rfl rfl rfl eh15.1 rfl ?_
    refine xi_iload_n (pc' := 5) (x := (-1)) kc_12_4 rfl rfl ?_
    refine xi_ineg (pc' := 6) (v := 1) kc_12_5 rfl rfl ?_
    refine xi_dup2 (pc' := 7) kc_12_6 rfl ⟨rfl, rfl⟩ ?_
    refine xcps4 (xk_arr K17.1 xD_140) (fun y19 A19 hy19 ry19 => ?_)
    refine xcps4 (xj_get hy19 ry19 (i := 1) (by decide) (by decide)) (fun v20 ev20 bv20 dv20 => ?_)
    refine xi_iaload (pc' := 8) (v := v20) kc_12_7 rfl A19 (by decide) rfl (xi_in (by decide) (by rw [hy19]; decide)) ev20 ?_
    refine xi_iconst (pc' := 9) (v := 1) kc_12_8 rfl rfl ?_
    refine xcps2 (α := Int32) ((v20 : Int32) + 1) (fun v21 ev21 => ?_)
    have rv21 := xc_rng v21
    refine xi_iadd (pc' := 10) (v := v21) kc_12_9 rfl ev21 ?_
    refine xcps4 (xj_set (v := v21) hy19 ry19 1 (by first | omega | decide) (by first | omega | decide)) (fun y22 s22 hy22 ry22 => ?_)
    refine xi_iastore (pc' := 11) (x' := y22) kc_12_10 rfl A19 rfl (xi_in (by decide) (by rw [hy19]; decide)) s22 (fun hh22 eh22 => ?_)
    have K23 := xk_pa K17 (xk_wa rfl) xD_140 hy22 ry22 eh22
    refine xi_iload_n (pc' := 12) (x := (-1)) kc_12_11 rfl rfl ?_
    refine xi_ireturn kc_12_12 mr_12 rfl ?_
    show xw J ov (d + 3) 30 (18, [(0, .ref 115), (1, .int x1), (2, .int x2), (3, .int x3), (4, .int x4)], [.int (-1)], hh22) _
    refine xi_ireturn kc_30_18 mr_30 rfl ?_
    have zcm1 : ((-1) : Int32).toInt = (-1) := by decide
    exact kk (-1) hh22 (by omega) K23
  · refine xi_cmf (pc' := 5) kc_11_2 rfl (xc_lt_f (X := x1.toInt) (Y := 0) rfl (by decide) (by omega)) ?_
    refine xi_iload_n (pc' := 6) (x := x1) kc_11_5 rfl rfl ?_
    refine xi_iload_n (pc' := 7) (x := 11) kc_11_6 rfl rfl ?_
    by_cases c24 : 11 < x1.toInt
    · refine xi_cmt (pc' := 14) kc_11_7 rfl (xc_gt_t (X := x1.toInt) (Y := 11) rfl (by decide) (by omega)) ?_
      refine xi_iconst (pc' := 15) (v := 0) kc_11_14 rfl rfl ?_
      refine xi_ireturn kc_11_15 mr_11 rfl ?_
      show xw J ov (d + 1) 24 (7, [(0, .int x1)], [.int 0], hh16) _
      refine xi_ireturn kc_24_7 mr_24 rfl ?_
      show xw J ov (d + 2) 31 (4, [(0, .ref 115), (1, .int x1)], [.int 0], hh16) _
      refine xi_ift (pc' := 20) kc_31_4 rfl rfl ?_
      refine xi_iconst (pc' := 21) (v := 0) kc_31_20 rfl rfl ?_
      refine xi_ireturn kc_31_21 mr_31 rfl ?_
      show xw J ov (d + 3) 30 (10, [(0, .ref 115), (1, .int x1), (2, .int x2), (3, .int x3), (4, .int x4)], [.int 0], hh16) _
      refine xi_iff (pc' := 13) kc_30_10 rfl rfl ?_
      refine xi_aload_n (pc' := 14) (x := 115) kc_30_13 rfl rfl ?_
      refine xi_iconst (pc' := 15) (v := (-1)) kc_30_14 rfl rfl ?_
      refine xi_virtual (mj := 12) (as := [.int (-1)]) (st1 := []) (lv0 := [(0, .ref 115), (1, .int (-1))]) kc_30_15 rfl rfl rfl rfl rfl eh15.1 (Nat.le_of_ble_eq_true rfl) (hJ _ _ _ _ (by decide)) (xm_le ml_12 rfl) rfl ?_
      refine xi_aload_n (pc' := 1) (x := 115) kc_12_0 rfl rfl ?_
      refine xi_getfield (pc' := 4) (v := .ref 140) kc_12_1 rfl rfl rfl eh15.1 rfl ?_
      refine xi_iload_n (pc' := 5) (x := (-1)) kc_12_4 rfl rfl ?_
      refine xi_ineg (pc' := 6) (v := 1) kc_12_5 rfl rfl ?_
      refine xi_dup2 (pc' := 7) kc_12_6 rfl ⟨rfl, rfl⟩ ?_
      refine xcps4 (xk_arr K17.1 xD_140) (fun y25 A25 hy25 ry25 => ?_)
      refine xcps4 (xj_get hy25 ry25 (i := 1) (by decide) (by decide)) (fun v26 ev26 bv26 dv26 => ?_)
      refine xi_iaload (pc' := 8) (v := v26) kc_12_7 rfl A25 (by decide) rfl (xi_in (by decide) (by rw [hy25]; decide)) ev26 ?_
      refine xi_iconst (pc' := 9) (v := 1) kc_12_8 rfl rfl ?_
      refine xcps2 (α := Int32) ((v26 : Int32) + 1) (fun v27 ev27 => ?_)
      have rv27 := xc_rng v27
      refine xi_iadd (pc' := 10) (v := v27) kc_12_9 rfl ev27 ?_
      refine xcps4 (xj_set (v := v27) hy25 ry25 1 (by first | omega | decide) (by first | omega | decide)) (fun y28 s28 hy28 ry28 => ?_)
      refine xi_iastore (pc' := 11) (x' := y28) kc_12_10 rfl A25 rfl (xi_in (by decide) (by rw [hy25]; decide)) s28 (fun hh28 eh28 => ?_)
      have K29 := xk_pa K17 (xk_wa rfl) xD_140 hy28 ry28 eh28
      refine xi_iload_n (pc' := 12) (x := (-1)) kc_12_11 rfl rfl ?_
      refine xi_ireturn kc_12_12 mr_12 rfl ?_
      show xw J ov (d + 3) 30 (18, [(0, .ref 115), (1, .int x1), (2, .int x2), (3, .int x3), (4, .int x4)], [.int (-1)], hh28) _
      refine xi_ireturn kc_30_18 mr_30 rfl ?_
      have zcm1 : ((-1) : Int32).toInt = (-1) := by decide
      exact kk (-1) hh28 (by omega) K29
    · refine xi_cmf (pc' := 10) kc_11_7 rfl (xc_gt_f (X := x1.toInt) (Y := 11) rfl (by decide) (by omega)) ?_
      refine xi_iconst (pc' := 11) (v := 1) kc_11_10 rfl rfl ?_
      refine xi_goto (pc' := 15) kc_11_11 rfl ?_
      refine xi_ireturn kc_11_15 mr_11 rfl ?_
      show xw J ov (d + 1) 24 (7, [(0, .int x1)], [.int 1], hh16) _
      refine xi_ireturn kc_24_7 mr_24 rfl ?_
      show xw J ov (d + 2) 31 (4, [(0, .ref 115), (1, .int x1)], [.int 1], hh16) _
      refine xi_iff (pc' := 7) kc_31_4 rfl rfl ?_
      refine xi_aload_n (pc' := 8) (x := 115) kc_31_7 rfl rfl ?_
      refine xi_getfield (pc' := 11) (v := .ref 125) kc_31_8 rfl rfl rfl eh15.1 rfl ?_
      refine xi_iload_n (pc' := 12) (x := x1) kc_31_11 rfl rfl ?_
      refine xcps4 (xk_arr K17.1 xD_125) (fun y30 A30 hy30 ry30 => ?_)
      refine xcps4 (xj_get hy30 ry30 (i := x1) (by omega) (by omega)) (fun v31 ev31 bv31 dv31 => ?_)
      refine xi_iaload (pc' := 13) (v := v31) kc_31_12 rfl A30 (by decide) rfl (xi_in (by omega) (by rw [hy30]; omega)) ev31 ?_
      by_cases c32 : v31.toInt < 0
      · refine xi_ift (pc' := 20) kc_31_13 rfl (xc_lt_t (X := v31.toInt) (Y := 0) rfl (by decide) (by omega)) ?_
        refine xi_iconst (pc' := 21) (v := 0) kc_31_20 rfl rfl ?_
        refine xi_ireturn kc_31_21 mr_31 rfl ?_
        show xw J ov (d + 3) 30 (10, [(0, .ref 115), (1, .int x1), (2, .int x2), (3, .int x3), (4, .int x4)], [.int 0], hh16) _
        refine xi_iff (pc' := 13) kc_30_10 rfl rfl ?_
        refine xi_aload_n (pc' := 14) (x := 115) kc_30_13 rfl rfl ?_
        refine xi_iconst (pc' := 15) (v := (-1)) kc_30_14 rfl rfl ?_
        refine xi_virtual (mj := 12) (as := [.int (-1)]) (st1 := []) (lv0 := [(0, .ref 115), (1, .int (-1))]) kc_30_15 rfl rfl rfl rfl rfl eh15.1 (Nat.le_of_ble_eq_true rfl) (hJ _ _ _ _ (by decide)) (xm_le ml_12 rfl) rfl ?_
        refine xi_aload_n (pc' := 1) (x := 115) kc_12_0 rfl rfl ?_
        refine xi_getfield (pc' := 4) (v := .ref 140) kc_12_1 rfl rfl rfl eh15.1 rfl ?_
        refine xi_iload_n (pc' := 5) (x := (-1)) kc_12_4 rfl rfl ?_
        refine xi_ineg (pc' := 6) (v := 1) kc_12_5 rfl rfl ?_
        refine xi_dup2 (pc' := 7) kc_12_6 rfl ⟨rfl, rfl⟩ ?_
        refine xcps4 (xk_arr K17.1 xD_140) (fun y33 A33 hy33 ry33 => ?_)
        refine xcps4 (xj_get hy33 ry33 (i := 1) (by decide) (by decide)) (fun v34 ev34 bv34 dv34 => ?_)
        refine xi_iaload (pc' := 8) (v := v34) kc_12_7 rfl A33 (by decide) rfl (xi_in (by decide) (by rw [hy33]; decide)) ev34 ?_
        refine xi_iconst (pc' := 9) (v := 1) kc_12_8 rfl rfl ?_
        refine xcps2 (α := Int32) ((v34 : Int32) + 1) (fun v35 ev35 => ?_)
        have rv35 := xc_rng v35
        refine xi_iadd (pc' := 10) (v := v35) kc_12_9 rfl ev35 ?_
        refine xcps4 (xj_set (v := v35) hy33 ry33 1 (by first | omega | decide) (by first | omega | decide)) (fun y36 s36 hy36 ry36 => ?_)
        refine xi_iastore (pc' := 11) (x' := y36) kc_12_10 rfl A33 rfl (xi_in (by decide) (by rw [hy33]; decide)) s36 (fun hh36 eh36 => ?_)
        have K37 := xk_pa K17 (xk_wa rfl) xD_140 hy36 ry36 eh36
        refine xi_iload_n (pc' := 12) (x := (-1)) kc_12_11 rfl rfl ?_
        refine xi_ireturn kc_12_12 mr_12 rfl ?_
        show xw J ov (d + 3) 30 (18, [(0, .ref 115), (1, .int x1), (2, .int x2), (3, .int x3), (4, .int x4)], [.int (-1)], hh36) _
        refine xi_ireturn kc_30_18 mr_30 rfl ?_
        have zcm1 : ((-1) : Int32).toInt = (-1) := by decide
        exact kk (-1) hh36 (by omega) K37
      · refine xi_iff (pc' := 16) kc_31_13 rfl (xc_lt_f (X := v31.toInt) (Y := 0) rfl (by decide) (by omega)) ?_
        refine xi_iconst (pc' := 17) (v := 1) kc_31_16 rfl rfl ?_
        refine xi_goto (pc' := 21) kc_31_17 rfl ?_
        refine xi_ireturn kc_31_21 mr_31 rfl ?_
        show xw J ov (d + 3) 30 (10, [(0, .ref 115), (1, .int x1), (2, .int x2), (3, .int x3), (4, .int x4)], [.int 1], hh16) _
        refine xi_ift (pc' := 19) kc_30_10 rfl rfl ?_
        refine xi_iload_n (pc' := 20) (x := x2) kc_30_19 rfl rfl ?_
        refine xi_aload_n (pc' := 21) (x := 115) kc_30_20 rfl rfl ?_
        refine xi_getfield (pc' := 24) (v := .int u2) kc_30_21 rfl rfl rfl eh15.1 rfl ?_
        by_cases c38 : u2.toInt < x2.toInt
        · refine xi_cmt (pc' := 49) kc_30_24 rfl (xc_gt_t (X := x2.toInt) (Y := u2.toInt) rfl rfl (by omega)) ?_
          refine xi_aload_n (pc' := 50) (x := 115) kc_30_49 rfl rfl ?_
          refine xi_bipush (pc' := 52) (v := (-3)) kc_30_50 rfl rfl ?_
          refine xi_virtual (mj := 12) (as := [.int (-3)]) (st1 := []) (lv0 := [(0, .ref 115), (1, .int (-3))]) kc_30_52 rfl rfl rfl rfl rfl eh15.1 (Nat.le_of_ble_eq_true rfl) (hJ _ _ _ _ (by decide)) (xm_le ml_12 rfl) rfl ?_
          refine xi_aload_n (pc' := 1) (x := 115) kc_12_0 rfl rfl ?_
          refine xi_getfield (pc' := 4) (v := .ref 140) kc_12_1 rfl rfl rfl eh15.1 rfl ?_
          refine xi_iload_n (pc' := 5) (x := (-3)) kc_12_4 rfl rfl ?_
          refine xi_ineg (pc' := 6) (v := 3) kc_12_5 rfl rfl ?_
          refine xi_dup2 (pc' := 7) kc_12_6 rfl ⟨rfl, rfl⟩ ?_
          refine xcps4 (xk_arr K17.1 xD_140) (fun y39 A39 hy39 ry39 => ?_)
          refine xcps4 (xj_get hy39 ry39 (i := 3) (by decide) (by decide)) (fun v40 ev40 bv40 dv40 => ?_)
          refine xi_iaload (pc' := 8) (v := v40) kc_12_7 rfl A39 (by decide) rfl (xi_in (by decide) (by rw [hy39]; decide)) ev40 ?_
          refine xi_iconst (pc' := 9) (v := 1) kc_12_8 rfl rfl ?_
          refine xcps2 (α := Int32) ((v40 : Int32) + 1) (fun v41 ev41 => ?_)
          have rv41 := xc_rng v41
          refine xi_iadd (pc' := 10) (v := v41) kc_12_9 rfl ev41 ?_
          refine xcps4 (xj_set (v := v41) hy39 ry39 3 (by first | omega | decide) (by first | omega | decide)) (fun y42 s42 hy42 ry42 => ?_)
          refine xi_iastore (pc' := 11) (x' := y42) kc_12_10 rfl A39 rfl (xi_in (by decide) (by rw [hy39]; decide)) s42 (fun hh42 eh42 => ?_)
          have K43 := xk_pa K17 (xk_wa rfl) xD_140 hy42 ry42 eh42
          refine xi_iload_n (pc' := 12) (x := (-3)) kc_12_11 rfl rfl ?_
          refine xi_ireturn kc_12_12 mr_12 rfl ?_
          show xw J ov (d + 3) 30 (55, [(0, .ref 115), (1, .int x1), (2, .int x2), (3, .int x3), (4, .int x4)], [.int (-3)], hh42) _
          refine xi_ireturn kc_30_55 mr_30 rfl ?_
          have zcm3 : ((-3) : Int32).toInt = (-3) := by decide
          exact kk (-3) hh42 (by omega) K43
        · refine xi_cmf (pc' := 27) kc_30_24 rfl (xc_gt_f (X := x2.toInt) (Y := u2.toInt) rfl rfl (by omega)) ?_
          refine xi_aload_n (pc' := 28) (x := 115) kc_30_27 rfl rfl ?_
          refine xi_getfield (pc' := 31) (v := .int u4) kc_30_28 rfl rfl rfl eh15.1 rfl ?_
          by_cases c44 : u4.toInt ≤ 0
          · refine xi_ift (pc' := 56) kc_30_31 rfl (xc_le_t (X := u4.toInt) (Y := 0) rfl (by decide) (by omega)) ?_
            refine xi_iload_n (pc' := 57) (x := x2) kc_30_56 rfl rfl ?_
            by_cases c45 : x2.toInt < 0
            · refine xi_ift (pc' := 69) kc_30_57 rfl (xc_lt_t (X := x2.toInt) (Y := 0) rfl (by decide) (by omega)) ?_
              refine xi_aload_n (pc' := 70) (x := 115) kc_30_69 rfl rfl ?_
              refine xi_bipush (pc' := 72) (v := (-4)) kc_30_70 rfl rfl ?_
              refine xi_virtual (mj := 12) (as := [.int (-4)]) (st1 := []) (lv0 := [(0, .ref 115), (1, .int (-4))]) kc_30_72 rfl rfl rfl rfl rfl eh15.1 (Nat.le_of_ble_eq_true rfl) (hJ _ _ _ _ (by decide)) (xm_le ml_12 rfl) rfl ?_
              refine xi_aload_n (pc' := 1) (x := 115) kc_12_0 rfl rfl ?_
              refine xi_getfield (pc' := 4) (v := .ref 140) kc_12_1 rfl rfl rfl eh15.1 rfl ?_
              refine xi_iload_n (pc' := 5) (x := (-4)) kc_12_4 rfl rfl ?_
              refine xi_ineg (pc' := 6) (v := 4) kc_12_5 rfl rfl ?_
              refine xi_dup2 (pc' := 7) kc_12_6 rfl ⟨rfl, rfl⟩ ?_
              refine xcps4 (xk_arr K17.1 xD_140) (fun y46 A46 hy46 ry46 => ?_)
              refine xcps4 (xj_get hy46 ry46 (i := 4) (by decide) (by decide)) (fun v47 ev47 bv47 dv47 => ?_)
              refine xi_iaload (pc' := 8) (v := v47) kc_12_7 rfl A46 (by decide) rfl (xi_in (by decide) (by rw [hy46]; decide)) ev47 ?_
              refine xi_iconst (pc' := 9) (v := 1) kc_12_8 rfl rfl ?_
              refine xcps2 (α := Int32) ((v47 : Int32) + 1) (fun v48 ev48 => ?_)
              have rv48 := xc_rng v48
              refine xi_iadd (pc' := 10) (v := v48) kc_12_9 rfl ev48 ?_
              refine xcps4 (xj_set (v := v48) hy46 ry46 4 (by first | omega | decide) (by first | omega | decide)) (fun y49 s49 hy49 ry49 => ?_)
              refine xi_iastore (pc' := 11) (x' := y49) kc_12_10 rfl A46 rfl (xi_in (by decide) (by rw [hy46]; decide)) s49 (fun hh49 eh49 => ?_)
              have K50 := xk_pa K17 (xk_wa rfl) xD_140 hy49 ry49 eh49
              refine xi_iload_n (pc' := 12) (x := (-4)) kc_12_11 rfl rfl ?_
              refine xi_ireturn kc_12_12 mr_12 rfl ?_
              show xw J ov (d + 3) 30 (75, [(0, .ref 115), (1, .int x1), (2, .int x2), (3, .int x3), (4, .int x4)], [.int (-4)], hh49) _
              refine xi_ireturn kc_30_75 mr_30 rfl ?_
              have zcm4 : ((-4) : Int32).toInt = (-4) := by decide
              exact kk (-4) hh49 (by omega) K50
            · refine xi_iff (pc' := 60) kc_30_57 rfl (xc_lt_f (X := x2.toInt) (Y := 0) rfl (by decide) (by omega)) ?_
              refine xi_iload_n (pc' := 61) (x := x3) kc_30_60 rfl rfl ?_
              by_cases c51 : x3.toInt < 0
              · refine xi_ift (pc' := 69) kc_30_61 rfl (xc_lt_t (X := x3.toInt) (Y := 0) rfl (by decide) (by omega)) ?_
                refine xi_aload_n (pc' := 70) (x := 115) kc_30_69 rfl rfl ?_
                refine xi_bipush (pc' := 72) (v := (-4)) kc_30_70 rfl rfl ?_
                refine xi_virtual (mj := 12) (as := [.int (-4)]) (st1 := []) (lv0 := [(0, .ref 115), (1, .int (-4))]) kc_30_72 rfl rfl rfl rfl rfl eh15.1 (Nat.le_of_ble_eq_true rfl) (hJ _ _ _ _ (by decide)) (xm_le ml_12 rfl) rfl ?_
                refine xi_aload_n (pc' := 1) (x := 115) kc_12_0 rfl rfl ?_
                refine xi_getfield (pc' := 4) (v := .ref 140) kc_12_1 rfl rfl rfl eh15.1 rfl ?_
                refine xi_iload_n (pc' := 5) (x := (-4)) kc_12_4 rfl rfl ?_
                refine xi_ineg (pc' := 6) (v := 4) kc_12_5 rfl rfl ?_
                refine xi_dup2 (pc' := 7) kc_12_6 rfl ⟨rfl, rfl⟩ ?_
                refine xcps4 (xk_arr K17.1 xD_140) (fun y52 A52 hy52 ry52 => ?_)
                refine xcps4 (xj_get hy52 ry52 (i := 4) (by decide) (by decide)) (fun v53 ev53 bv53 dv53 => ?_)
                refine xi_iaload (pc' := 8) (v := v53) kc_12_7 rfl A52 (by decide) rfl (xi_in (by decide) (by rw [hy52]; decide)) ev53 ?_
                refine xi_iconst (pc' := 9) (v := 1) kc_12_8 rfl rfl ?_
                refine xcps2 (α := Int32) ((v53 : Int32) + 1) (fun v54 ev54 => ?_)
                have rv54 := xc_rng v54
                refine xi_iadd (pc' := 10) (v := v54) kc_12_9 rfl ev54 ?_
                refine xcps4 (xj_set (v := v54) hy52 ry52 4 (by first | omega | decide) (by first | omega | decide)) (fun y55 s55 hy55 ry55 => ?_)
                refine xi_iastore (pc' := 11) (x' := y55) kc_12_10 rfl A52 rfl (xi_in (by decide) (by rw [hy52]; decide)) s55 (fun hh55 eh55 => ?_)
                have K56 := xk_pa K17 (xk_wa rfl) xD_140 hy55 ry55 eh55
                refine xi_iload_n (pc' := 12) (x := (-4)) kc_12_11 rfl rfl ?_
                refine xi_ireturn kc_12_12 mr_12 rfl ?_
                show xw J ov (d + 3) 30 (75, [(0, .ref 115), (1, .int x1), (2, .int x2), (3, .int x3), (4, .int x4)], [.int (-4)], hh55) _
                refine xi_ireturn kc_30_75 mr_30 rfl ?_
                have zcm4 : ((-4) : Int32).toInt = (-4) := by decide
                exact kk (-4) hh55 (by omega) K56
              · refine xi_iff (pc' := 64) kc_30_61 rfl (xc_lt_f (X := x3.toInt) (Y := 0) rfl (by decide) (by omega)) ?_
                refine xi_iload (pc' := 66) (x := x4) kc_30_64 rfl rfl ?_
                by_cases c57 : 0 ≤ x4.toInt
                · refine xi_ift (pc' := 76) kc_30_66 rfl (xc_ge_t (X := x4.toInt) (Y := 0) rfl (by decide) (by omega)) ?_
                  refine xi_iload_n (pc' := 77) (x := x3) kc_30_76 rfl rfl ?_
                  refine xi_ldc (pc' := 79) (v := 99999) kc_30_77 rfl rfl ?_
                  by_cases c58 : 99999 < x3.toInt
                  · refine xi_cmt (pc' := 99) kc_30_79 rfl (xc_gt_t (X := x3.toInt) (Y := 99999) rfl (by decide) (by omega)) ?_
                    refine xi_aload_n (pc' := 100) (x := 115) kc_30_99 rfl rfl ?_
                    refine xi_bipush (pc' := 102) (v := (-6)) kc_30_100 rfl rfl ?_
                    refine xi_virtual (mj := 12) (as := [.int (-6)]) (st1 := []) (lv0 := [(0, .ref 115), (1, .int (-6))]) kc_30_102 rfl rfl rfl rfl rfl eh15.1 (Nat.le_of_ble_eq_true rfl) (hJ _ _ _ _ (by decide)) (xm_le ml_12 rfl) rfl ?_
                    refine xi_aload_n (pc' := 1) (x := 115) kc_12_0 rfl rfl ?_
                    refine xi_getfield (pc' := 4) (v := .ref 140) kc_12_1 rfl rfl rfl eh15.1 rfl ?_
                    refine xi_iload_n (pc' := 5) (x := (-6)) kc_12_4 rfl rfl ?_
                    refine xi_ineg (pc' := 6) (v := 6) kc_12_5 rfl rfl ?_
                    refine xi_dup2 (pc' := 7) kc_12_6 rfl ⟨rfl, rfl⟩ ?_
                    refine xcps4 (xk_arr K17.1 xD_140) (fun y59 A59 hy59 ry59 => ?_)
                    refine xcps4 (xj_get hy59 ry59 (i := 6) (by decide) (by decide)) (fun v60 ev60 bv60 dv60 => ?_)
                    refine xi_iaload (pc' := 8) (v := v60) kc_12_7 rfl A59 (by decide) rfl (xi_in (by decide) (by rw [hy59]; decide)) ev60 ?_
                    refine xi_iconst (pc' := 9) (v := 1) kc_12_8 rfl rfl ?_
                    refine xcps2 (α := Int32) ((v60 : Int32) + 1) (fun v61 ev61 => ?_)
                    have rv61 := xc_rng v61
                    refine xi_iadd (pc' := 10) (v := v61) kc_12_9 rfl ev61 ?_
                    refine xcps4 (xj_set (v := v61) hy59 ry59 6 (by first | omega | decide) (by first | omega | decide)) (fun y62 s62 hy62 ry62 => ?_)
                    refine xi_iastore (pc' := 11) (x' := y62) kc_12_10 rfl A59 rfl (xi_in (by decide) (by rw [hy59]; decide)) s62 (fun hh62 eh62 => ?_)
                    have K63 := xk_pa K17 (xk_wa rfl) xD_140 hy62 ry62 eh62
                    refine xi_iload_n (pc' := 12) (x := (-6)) kc_12_11 rfl rfl ?_
                    refine xi_ireturn kc_12_12 mr_12 rfl ?_
                    show xw J ov (d + 3) 30 (105, [(0, .ref 115), (1, .int x1), (2, .int x2), (3, .int x3), (4, .int x4)], [.int (-6)], hh62) _
                    refine xi_ireturn kc_30_105 mr_30 rfl ?_
                    have zcm6 : ((-6) : Int32).toInt = (-6) := by decide
                    exact kk (-6) hh62 (by omega) K63
                  · refine xi_cmf (pc' := 82) kc_30_79 rfl (xc_gt_f (X := x3.toInt) (Y := 99999) rfl (by decide) (by omega)) ?_
                    refine xi_iload (pc' := 84) (x := x4) kc_30_82 rfl rfl ?_
                    refine xi_sipush (pc' := 87) (v := 999) kc_30_84 rfl rfl ?_
                    by_cases c64 : 999 < x4.toInt
                    · refine xi_cmt (pc' := 99) kc_30_87 rfl (xc_gt_t (X := x4.toInt) (Y := 999) rfl (by decide) (by omega)) ?_
                      refine xi_aload_n (pc' := 100) (x := 115) kc_30_99 rfl rfl ?_
                      refine xi_bipush (pc' := 102) (v := (-6)) kc_30_100 rfl rfl ?_
                      refine xi_virtual (mj := 12) (as := [.int (-6)]) (st1 := []) (lv0 := [(0, .ref 115), (1, .int (-6))]) kc_30_102 rfl rfl rfl rfl rfl eh15.1 (Nat.le_of_ble_eq_true rfl) (hJ _ _ _ _ (by decide)) (xm_le ml_12 rfl) rfl ?_
                      refine xi_aload_n (pc' := 1) (x := 115) kc_12_0 rfl rfl ?_
                      refine xi_getfield (pc' := 4) (v := .ref 140) kc_12_1 rfl rfl rfl eh15.1 rfl ?_
                      refine xi_iload_n (pc' := 5) (x := (-6)) kc_12_4 rfl rfl ?_
                      refine xi_ineg (pc' := 6) (v := 6) kc_12_5 rfl rfl ?_
                      refine xi_dup2 (pc' := 7) kc_12_6 rfl ⟨rfl, rfl⟩ ?_
                      refine xcps4 (xk_arr K17.1 xD_140) (fun y65 A65 hy65 ry65 => ?_)
                      refine xcps4 (xj_get hy65 ry65 (i := 6) (by decide) (by decide)) (fun v66 ev66 bv66 dv66 => ?_)
                      refine xi_iaload (pc' := 8) (v := v66) kc_12_7 rfl A65 (by decide) rfl (xi_in (by decide) (by rw [hy65]; decide)) ev66 ?_
                      refine xi_iconst (pc' := 9) (v := 1) kc_12_8 rfl rfl ?_
                      refine xcps2 (α := Int32) ((v66 : Int32) + 1) (fun v67 ev67 => ?_)
                      have rv67 := xc_rng v67
                      refine xi_iadd (pc' := 10) (v := v67) kc_12_9 rfl ev67 ?_
                      refine xcps4 (xj_set (v := v67) hy65 ry65 6 (by first | omega | decide) (by first | omega | decide)) (fun y68 s68 hy68 ry68 => ?_)
                      refine xi_iastore (pc' := 11) (x' := y68) kc_12_10 rfl A65 rfl (xi_in (by decide) (by rw [hy65]; decide)) s68 (fun hh68 eh68 => ?_)
                      have K69 := xk_pa K17 (xk_wa rfl) xD_140 hy68 ry68 eh68
                      refine xi_iload_n (pc' := 12) (x := (-6)) kc_12_11 rfl rfl ?_
                      refine xi_ireturn kc_12_12 mr_12 rfl ?_
                      show xw J ov (d + 3) 30 (105, [(0, .ref 115), (1, .int x1), (2, .int x2), (3, .int x3), (4, .int x4)], [.int (-6)], hh68) _
                      refine xi_ireturn kc_30_105 mr_30 rfl ?_
                      have zcm6 : ((-6) : Int32).toInt = (-6) := by decide
                      exact kk (-6) hh68 (by omega) K69
                    · refine xi_cmf (pc' := 90) kc_30_87 rfl (xc_gt_f (X := x4.toInt) (Y := 999) rfl (by decide) (by omega)) ?_
                      refine xi_aload_n (pc' := 91) (x := 115) kc_30_90 rfl rfl ?_
                      refine xi_getfield (pc' := 94) (v := .int u4) kc_30_91 rfl rfl rfl eh15.1 rfl ?_
                      refine xi_bipush (pc' := 96) (v := 60) kc_30_94 rfl rfl ?_
                      refine xi_cmt (pc' := 106) kc_30_96 rfl (xc_ne_t (X := u4.toInt) (Y := 60) rfl (by decide) (by omega)) ?_
                      refine xi_aload_n (pc' := 107) (x := 115) kc_30_106 rfl rfl ?_
                      refine xi_getfield (pc' := 110) (v := .ref 131) kc_30_107 rfl rfl rfl eh15.1 rfl ?_
                      refine xi_aload_n (pc' := 111) (x := 115) kc_30_110 rfl rfl ?_
                      refine xi_getfield (pc' := 114) (v := .int u4) kc_30_111 rfl rfl rfl eh15.1 rfl ?_
                      refine xi_iload_n (pc' := 115) (x := x1) kc_30_114 rfl rfl ?_
                      refine xcps4 (xk_arr K17.1 xD_131) (fun y70 A70 hy70 ry70 => ?_)
                      refine xcps4 (xj_set (v := x1) hy70 ry70 u4 (by first | omega | decide) (by first | omega | decide)) (fun y71 s71 hy71 ry71 => ?_)
                      refine xi_iastore (pc' := 116) (x' := y71) kc_30_115 rfl A70 rfl (xi_in (by omega) (by rw [hy70]; omega)) s71 (fun hh71 eh71 => ?_)
                      have K72 := xk_pa K17 (xk_wa rfl) xD_131 hy71 ry71 eh71
                      refine xi_aload_n (pc' := 117) (x := 115) kc_30_116 rfl rfl ?_
                      have A73 := ((eh71.2.1 115 (by decide)).trans eh15.1)
                      refine xi_getfield (pc' := 120) (v := .ref 132) kc_30_117 rfl rfl rfl A73 rfl ?_
                      refine xi_aload_n (pc' := 121) (x := 115) kc_30_120 rfl rfl ?_
                      refine xi_getfield (pc' := 124) (v := .int u4) kc_30_121 rfl rfl rfl A73 rfl ?_
                      refine xi_iload_n (pc' := 125) (x := x2) kc_30_124 rfl rfl ?_
                      refine xcps4 (xk_arr K72.1 xD_132) (fun y74 A74 hy74 ry74 => ?_)
                      refine xcps4 (xj_set (v := x2) hy74 ry74 u4 (by first | omega | decide) (by first | omega | decide)) (fun y75 s75 hy75 ry75 => ?_)
                      refine xi_iastore (pc' := 126) (x' := y75) kc_30_125 rfl A74 rfl (xi_in (by omega) (by rw [hy74]; omega)) s75 (fun hh75 eh75 => ?_)
                      have K76 := xk_pa K72 (xk_wa rfl) xD_132 hy75 ry75 eh75
                      refine xi_aload_n (pc' := 127) (x := 115) kc_30_126 rfl rfl ?_
                      have A77 := ((eh75.2.1 115 (by decide)).trans A73)
                      refine xi_getfield (pc' := 130) (v := .ref 133) kc_30_127 rfl rfl rfl A77 rfl ?_
                      refine xi_aload_n (pc' := 131) (x := 115) kc_30_130 rfl rfl ?_
                      refine xi_getfield (pc' := 134) (v := .int u4) kc_30_131 rfl rfl rfl A77 rfl ?_
                      refine xi_iload_n (pc' := 135) (x := x3) kc_30_134 rfl rfl ?_
                      refine xcps4 (xk_arr K76.1 xD_133) (fun y78 A78 hy78 ry78 => ?_)
                      refine xcps4 (xj_set (v := x3) hy78 ry78 u4 (by first | omega | decide) (by first | omega | decide)) (fun y79 s79 hy79 ry79 => ?_)
                      refine xi_iastore (pc' := 136) (x' := y79) kc_30_135 rfl A78 rfl (xi_in (by omega) (by rw [hy78]; omega)) s79 (fun hh79 eh79 => ?_)
                      have K80 := xk_pa K76 (xk_wa rfl) xD_133 hy79 ry79 eh79
                      refine xi_aload_n (pc' := 137) (x := 115) kc_30_136 rfl rfl ?_
                      have A81 := ((eh79.2.1 115 (by decide)).trans A77)
                      refine xi_getfield (pc' := 140) (v := .ref 134) kc_30_137 rfl rfl rfl A81 rfl ?_
                      refine xi_aload_n (pc' := 141) (x := 115) kc_30_140 rfl rfl ?_
                      refine xi_getfield (pc' := 144) (v := .int u4) kc_30_141 rfl rfl rfl A81 rfl ?_
                      refine xi_iload (pc' := 146) (x := x4) kc_30_144 rfl rfl ?_
                      refine xcps4 (xk_arr K80.1 xD_134) (fun y82 A82 hy82 ry82 => ?_)
                      refine xcps4 (xj_set (v := x4) hy82 ry82 u4 (by first | omega | decide) (by first | omega | decide)) (fun y83 s83 hy83 ry83 => ?_)
                      refine xi_iastore (pc' := 147) (x' := y83) kc_30_146 rfl A82 rfl (xi_in (by omega) (by rw [hy82]; omega)) s83 (fun hh83 eh83 => ?_)
                      have K84 := xk_pa K80 (xk_wa rfl) xD_134 hy83 ry83 eh83
                      refine xi_aload_n (pc' := 148) (x := 115) kc_30_147 rfl rfl ?_
                      refine xi_dup (pc' := 149) kc_30_148 rfl rfl ?_
                      have A85 := ((eh83.2.1 115 (by decide)).trans A81)
                      refine xi_getfield (pc' := 152) (v := .int u4) kc_30_149 rfl rfl rfl A85 rfl ?_
                      refine xi_iconst (pc' := 153) (v := 1) kc_30_152 rfl rfl ?_
                      refine xcps2 (α := Int32) (u4 + 1) (fun v86 ev86 => ?_)
                      have zv86 : v86.toInt = (u4.toInt + 1) := by rw [← ev86]; exact (xz_add (X := u4.toInt) (Y := 1) rfl (by decide) (by omega) (by omega)).trans (by omega)
                      refine xi_iadd (pc' := 154) (v := v86) kc_30_153 rfl ev86 ?_
                      refine xi_putfield (pc' := 157) (fs' := [.int 0, .int u2, .ref 116, .ref 117, .ref 118, .ref 119, .ref 120, .ref 121, .ref 122, .ref 123, .ref 124, .ref 125, .ref 126, .ref 127, .ref 128, .ref 129, .int u3, .ref 130, .int v86, .ref 131, .ref 132, .ref 133, .ref 134, .int u5, .ref 135, .ref 136, .ref 137, .ref 138, .ref 139, .ref 140, .ref 141, .ref 142, .int u6, .int u7, .int u8, .ref 143, .ref 144, .ref 145, .ref 146, .ref 147, .ref 148, .int u9, .ref 149, .ref 150, .ref 151, .int u10, .ref 152, .ref 153, .ref 154, .ref 155, .ref 156, .ref 157, .ref 158, .ref 159, .int u11, .ref 160, .int u12, .ref 161, .ref 162, .ref 163, .ref 164, .int u13, .ref 165, .ref 166]) kc_30_154 rfl rfl rfl A85 rfl rfl rfl (Nat.le_of_ble_eq_true rfl) rfl (fun hh88 eh87 => ?_)
                      have K89 := xk_pf (k := 18) (v := v86) K84 (xk_wf rfl) xD_115 A85 rfl (by first | omega | decide) (by first | omega | decide) eh87 rfl
                      refine xi_aload_n (pc' := 158) (x := 115) kc_30_157 rfl rfl ?_
                      refine xi_iconst (pc' := 159) (v := 0) kc_30_158 rfl rfl ?_
                      refine xi_putfield (pc' := 162) (fs' := [.int 0, .int u2, .ref 116, .ref 117, .ref 118, .ref 119, .ref 120, .ref 121, .ref 122, .ref 123, .ref 124, .ref 125, .ref 126, .ref 127, .ref 128, .ref 129, .int u3, .ref 130, .int v86, .ref 131, .ref 132, .ref 133, .ref 134, .int u5, .ref 135, .ref 136, .ref 137, .ref 138, .ref 139, .ref 140, .ref 141, .ref 142, .int u6, .int u7, .int u8, .ref 143, .ref 144, .ref 145, .ref 146, .ref 147, .ref 148, .int 0, .ref 149, .ref 150, .ref 151, .int u10, .ref 152, .ref 153, .ref 154, .ref 155, .ref 156, .ref 157, .ref 158, .ref 159, .int u11, .ref 160, .int u12, .ref 161, .ref 162, .ref 163, .ref 164, .int u13, .ref 165, .ref 166]) kc_30_159 rfl rfl rfl eh87.1 rfl rfl rfl (Nat.le_of_ble_eq_true rfl) rfl (fun hh91 eh90 => ?_)
                      have K92 := xk_pf (k := 41) (v := 0) K89 (xk_wf rfl) xD_115 eh87.1 rfl (by first | omega | decide) (by first | omega | decide) eh90 rfl
                      refine xi_aload_n (pc' := 163) (x := 115) kc_30_162 rfl rfl ?_
                      refine xi_getfield (pc' := 166) (v := .int v86) kc_30_163 rfl rfl rfl eh90.1 rfl ?_
                      refine xi_iconst (pc' := 167) (v := 1) kc_30_166 rfl rfl ?_
                      refine xcps2 (α := Int32) (v86 - 1) (fun v93 ev93 => ?_)
                      have zv93 : v93.toInt = u4.toInt := by rw [← ev93]; exact (xz_sub (X := (u4.toInt + 1)) (Y := 1) zv86 (by decide) (by omega) (by omega)).trans (by omega)
                      refine xi_isub (pc' := 168) (v := v93) kc_30_167 rfl ev93 ?_
                      refine xi_ireturn kc_30_168 mr_30 rfl ?_
                      exact kk v93 hh91 (by omega) K92
                · refine xi_iff (pc' := 69) kc_30_66 rfl (xc_ge_f (X := x4.toInt) (Y := 0) rfl (by decide) (by omega)) ?_
                  refine xi_aload_n (pc' := 70) (x := 115) kc_30_69 rfl rfl ?_
                  refine xi_bipush (pc' := 72) (v := (-4)) kc_30_70 rfl rfl ?_
                  refine xi_virtual (mj := 12) (as := [.int (-4)]) (st1 := []) (lv0 := [(0, .ref 115), (1, .int (-4))]) kc_30_72 rfl rfl rfl rfl rfl eh15.1 (Nat.le_of_ble_eq_true rfl) (hJ _ _ _ _ (by decide)) (xm_le ml_12 rfl) rfl ?_
                  refine xi_aload_n (pc' := 1) (x := 115) kc_12_0 rfl rfl ?_
                  refine xi_getfield (pc' := 4) (v := .ref 140) kc_12_1 rfl rfl rfl eh15.1 rfl ?_
                  refine xi_iload_n (pc' := 5) (x := (-4)) kc_12_4 rfl rfl ?_
                  refine xi_ineg (pc' := 6) (v := 4) kc_12_5 rfl rfl ?_
                  refine xi_dup2 (pc' := 7) kc_12_6 rfl ⟨rfl, rfl⟩ ?_
                  refine xcps4 (xk_arr K17.1 xD_140) (fun y94 A94 hy94 ry94 => ?_)
                  refine xcps4 (xj_get hy94 ry94 (i := 4) (by decide) (by decide)) (fun v95 ev95 bv95 dv95 => ?_)
                  refine xi_iaload (pc' := 8) (v := v95) kc_12_7 rfl A94 (by decide) rfl (xi_in (by decide) (by rw [hy94]; decide)) ev95 ?_
                  refine xi_iconst (pc' := 9) (v := 1) kc_12_8 rfl rfl ?_
                  refine xcps2 (α := Int32) ((v95 : Int32) + 1) (fun v96 ev96 => ?_)
                  have rv96 := xc_rng v96
                  refine xi_iadd (pc' := 10) (v := v96) kc_12_9 rfl ev96 ?_
                  refine xcps4 (xj_set (v := v96) hy94 ry94 4 (by first | omega | decide) (by first | omega | decide)) (fun y97 s97 hy97 ry97 => ?_)
                  refine xi_iastore (pc' := 11) (x' := y97) kc_12_10 rfl A94 rfl (xi_in (by decide) (by rw [hy94]; decide)) s97 (fun hh97 eh97 => ?_)
                  have K98 := xk_pa K17 (xk_wa rfl) xD_140 hy97 ry97 eh97
                  refine xi_iload_n (pc' := 12) (x := (-4)) kc_12_11 rfl rfl ?_
                  refine xi_ireturn kc_12_12 mr_12 rfl ?_
                  show xw J ov (d + 3) 30 (75, [(0, .ref 115), (1, .int x1), (2, .int x2), (3, .int x3), (4, .int x4)], [.int (-4)], hh97) _
                  refine xi_ireturn kc_30_75 mr_30 rfl ?_
                  have zcm4 : ((-4) : Int32).toInt = (-4) := by decide
                  exact kk (-4) hh97 (by omega) K98
          · refine xi_iff (pc' := 34) kc_30_31 rfl (xc_le_f (X := u4.toInt) (Y := 0) rfl (by decide) (by omega)) ?_
            refine xi_iload_n (pc' := 35) (x := x2) kc_30_34 rfl rfl ?_
            refine xi_aload_n (pc' := 36) (x := 115) kc_30_35 rfl rfl ?_
            refine xi_getfield (pc' := 39) (v := .ref 132) kc_30_36 rfl rfl rfl eh15.1 rfl ?_
            refine xi_aload_n (pc' := 40) (x := 115) kc_30_39 rfl rfl ?_
            refine xi_getfield (pc' := 43) (v := .int u4) kc_30_40 rfl rfl rfl eh15.1 rfl ?_
            refine xi_iconst (pc' := 44) (v := 1) kc_30_43 rfl rfl ?_
            refine xcps2 (α := Int32) (u4 - 1) (fun v99 ev99 => ?_)
            have zv99 : v99.toInt = (u4.toInt + (-1)) := by rw [← ev99]; exact (xz_sub (X := u4.toInt) (Y := 1) rfl (by decide) (by omega) (by omega)).trans (by omega)
            refine xi_isub (pc' := 45) (v := v99) kc_30_44 rfl ev99 ?_
            refine xcps4 (xk_arr K17.1 xD_132) (fun y100 A100 hy100 ry100 => ?_)
            refine xcps4 (xj_get hy100 ry100 (i := v99) (by rw [zv99]; omega) (by rw [zv99]; omega)) (fun v101 ev101 bv101 dv101 => ?_)
            refine xi_iaload (pc' := 46) (v := v101) kc_30_45 rfl A100 (by decide) rfl (xi_in (by rw [zv99]; omega) (by rw [hy100]; rw [zv99]; omega)) ev101 ?_
            by_cases c102 : v101.toInt ≤ x2.toInt
            · refine xi_cmt (pc' := 56) kc_30_46 rfl (xc_ge_t (X := x2.toInt) (Y := v101.toInt) rfl rfl (by omega)) ?_
              refine xi_iload_n (pc' := 57) (x := x2) kc_30_56 rfl rfl ?_
              by_cases c103 : x2.toInt < 0
              · refine xi_ift (pc' := 69) kc_30_57 rfl (xc_lt_t (X := x2.toInt) (Y := 0) rfl (by decide) (by omega)) ?_
                refine xi_aload_n (pc' := 70) (x := 115) kc_30_69 rfl rfl ?_
                refine xi_bipush (pc' := 72) (v := (-4)) kc_30_70 rfl rfl ?_
                refine xi_virtual (mj := 12) (as := [.int (-4)]) (st1 := []) (lv0 := [(0, .ref 115), (1, .int (-4))]) kc_30_72 rfl rfl rfl rfl rfl eh15.1 (Nat.le_of_ble_eq_true rfl) (hJ _ _ _ _ (by decide)) (xm_le ml_12 rfl) rfl ?_
                refine xi_aload_n (pc' := 1) (x := 115) kc_12_0 rfl rfl ?_
                refine xi_getfield (pc' := 4) (v := .ref 140) kc_12_1 rfl rfl rfl eh15.1 rfl ?_
                refine xi_iload_n (pc' := 5) (x := (-4)) kc_12_4 rfl rfl ?_
                refine xi_ineg (pc' := 6) (v := 4) kc_12_5 rfl rfl ?_
                refine xi_dup2 (pc' := 7) kc_12_6 rfl ⟨rfl, rfl⟩ ?_
                refine xcps4 (xk_arr K17.1 xD_140) (fun y104 A104 hy104 ry104 => ?_)
                refine xcps4 (xj_get hy104 ry104 (i := 4) (by decide) (by decide)) (fun v105 ev105 bv105 dv105 => ?_)
                refine xi_iaload (pc' := 8) (v := v105) kc_12_7 rfl A104 (by decide) rfl (xi_in (by decide) (by rw [hy104]; decide)) ev105 ?_
                refine xi_iconst (pc' := 9) (v := 1) kc_12_8 rfl rfl ?_
                refine xcps2 (α := Int32) ((v105 : Int32) + 1) (fun v106 ev106 => ?_)
                have rv106 := xc_rng v106
                refine xi_iadd (pc' := 10) (v := v106) kc_12_9 rfl ev106 ?_
                refine xcps4 (xj_set (v := v106) hy104 ry104 4 (by first | omega | decide) (by first | omega | decide)) (fun y107 s107 hy107 ry107 => ?_)
                refine xi_iastore (pc' := 11) (x' := y107) kc_12_10 rfl A104 rfl (xi_in (by decide) (by rw [hy104]; decide)) s107 (fun hh107 eh107 => ?_)
                have K108 := xk_pa K17 (xk_wa rfl) xD_140 hy107 ry107 eh107
                refine xi_iload_n (pc' := 12) (x := (-4)) kc_12_11 rfl rfl ?_
                refine xi_ireturn kc_12_12 mr_12 rfl ?_
                show xw J ov (d + 3) 30 (75, [(0, .ref 115), (1, .int x1), (2, .int x2), (3, .int x3), (4, .int x4)], [.int (-4)], hh107) _
                refine xi_ireturn kc_30_75 mr_30 rfl ?_
                have zcm4 : ((-4) : Int32).toInt = (-4) := by decide
                exact kk (-4) hh107 (by omega) K108
              · refine xi_iff (pc' := 60) kc_30_57 rfl (xc_lt_f (X := x2.toInt) (Y := 0) rfl (by decide) (by omega)) ?_
                refine xi_iload_n (pc' := 61) (x := x3) kc_30_60 rfl rfl ?_
                by_cases c109 : x3.toInt < 0
                · refine xi_ift (pc' := 69) kc_30_61 rfl (xc_lt_t (X := x3.toInt) (Y := 0) rfl (by decide) (by omega)) ?_
                  refine xi_aload_n (pc' := 70) (x := 115) kc_30_69 rfl rfl ?_
                  refine xi_bipush (pc' := 72) (v := (-4)) kc_30_70 rfl rfl ?_
                  refine xi_virtual (mj := 12) (as := [.int (-4)]) (st1 := []) (lv0 := [(0, .ref 115), (1, .int (-4))]) kc_30_72 rfl rfl rfl rfl rfl eh15.1 (Nat.le_of_ble_eq_true rfl) (hJ _ _ _ _ (by decide)) (xm_le ml_12 rfl) rfl ?_
                  refine xi_aload_n (pc' := 1) (x := 115) kc_12_0 rfl rfl ?_
                  refine xi_getfield (pc' := 4) (v := .ref 140) kc_12_1 rfl rfl rfl eh15.1 rfl ?_
                  refine xi_iload_n (pc' := 5) (x := (-4)) kc_12_4 rfl rfl ?_
                  refine xi_ineg (pc' := 6) (v := 4) kc_12_5 rfl rfl ?_
                  refine xi_dup2 (pc' := 7) kc_12_6 rfl ⟨rfl, rfl⟩ ?_
                  refine xcps4 (xk_arr K17.1 xD_140) (fun y110 A110 hy110 ry110 => ?_)
                  refine xcps4 (xj_get hy110 ry110 (i := 4) (by decide) (by decide)) (fun v111 ev111 bv111 dv111 => ?_)
                  refine xi_iaload (pc' := 8) (v := v111) kc_12_7 rfl A110 (by decide) rfl (xi_in (by decide) (by rw [hy110]; decide)) ev111 ?_
                  refine xi_iconst (pc' := 9) (v := 1) kc_12_8 rfl rfl ?_
                  refine xcps2 (α := Int32) ((v111 : Int32) + 1) (fun v112 ev112 => ?_)
                  have rv112 := xc_rng v112
                  refine xi_iadd (pc' := 10) (v := v112) kc_12_9 rfl ev112 ?_
                  refine xcps4 (xj_set (v := v112) hy110 ry110 4 (by first | omega | decide) (by first | omega | decide)) (fun y113 s113 hy113 ry113 => ?_)
                  refine xi_iastore (pc' := 11) (x' := y113) kc_12_10 rfl A110 rfl (xi_in (by decide) (by rw [hy110]; decide)) s113 (fun hh113 eh113 => ?_)
                  have K114 := xk_pa K17 (xk_wa rfl) xD_140 hy113 ry113 eh113
                  refine xi_iload_n (pc' := 12) (x := (-4)) kc_12_11 rfl rfl ?_
                  refine xi_ireturn kc_12_12 mr_12 rfl ?_
                  show xw J ov (d + 3) 30 (75, [(0, .ref 115), (1, .int x1), (2, .int x2), (3, .int x3), (4, .int x4)], [.int (-4)], hh113) _
                  refine xi_ireturn kc_30_75 mr_30 rfl ?_
                  have zcm4 : ((-4) : Int32).toInt = (-4) := by decide
                  exact kk (-4) hh113 (by omega) K114
                · refine xi_iff (pc' := 64) kc_30_61 rfl (xc_lt_f (X := x3.toInt) (Y := 0) rfl (by decide) (by omega)) ?_
                  refine xi_iload (pc' := 66) (x := x4) kc_30_64 rfl rfl ?_
                  by_cases c115 : 0 ≤ x4.toInt
                  · refine xi_ift (pc' := 76) kc_30_66 rfl (xc_ge_t (X := x4.toInt) (Y := 0) rfl (by decide) (by omega)) ?_
                    refine xi_iload_n (pc' := 77) (x := x3) kc_30_76 rfl rfl ?_
                    refine xi_ldc (pc' := 79) (v := 99999) kc_30_77 rfl rfl ?_
                    by_cases c116 : 99999 < x3.toInt
                    · refine xi_cmt (pc' := 99) kc_30_79 rfl (xc_gt_t (X := x3.toInt) (Y := 99999) rfl (by decide) (by omega)) ?_
                      refine xi_aload_n (pc' := 100) (x := 115) kc_30_99 rfl rfl ?_
                      refine xi_bipush (pc' := 102) (v := (-6)) kc_30_100 rfl rfl ?_
                      refine xi_virtual (mj := 12) (as := [.int (-6)]) (st1 := []) (lv0 := [(0, .ref 115), (1, .int (-6))]) kc_30_102 rfl rfl rfl rfl rfl eh15.1 (Nat.le_of_ble_eq_true rfl) (hJ _ _ _ _ (by decide)) (xm_le ml_12 rfl) rfl ?_
                      refine xi_aload_n (pc' := 1) (x := 115) kc_12_0 rfl rfl ?_
                      refine xi_getfield (pc' := 4) (v := .ref 140) kc_12_1 rfl rfl rfl eh15.1 rfl ?_
                      refine xi_iload_n (pc' := 5) (x := (-6)) kc_12_4 rfl rfl ?_
                      refine xi_ineg (pc' := 6) (v := 6) kc_12_5 rfl rfl ?_
                      refine xi_dup2 (pc' := 7) kc_12_6 rfl ⟨rfl, rfl⟩ ?_
                      refine xcps4 (xk_arr K17.1 xD_140) (fun y117 A117 hy117 ry117 => ?_)
                      refine xcps4 (xj_get hy117 ry117 (i := 6) (by decide) (by decide)) (fun v118 ev118 bv118 dv118 => ?_)
                      refine xi_iaload (pc' := 8) (v := v118) kc_12_7 rfl A117 (by decide) rfl (xi_in (by decide) (by rw [hy117]; decide)) ev118 ?_
                      refine xi_iconst (pc' := 9) (v := 1) kc_12_8 rfl rfl ?_
                      refine xcps2 (α := Int32) ((v118 : Int32) + 1) (fun v119 ev119 => ?_)
                      have rv119 := xc_rng v119
                      refine xi_iadd (pc' := 10) (v := v119) kc_12_9 rfl ev119 ?_
                      refine xcps4 (xj_set (v := v119) hy117 ry117 6 (by first | omega | decide) (by first | omega | decide)) (fun y120 s120 hy120 ry120 => ?_)
                      refine xi_iastore (pc' := 11) (x' := y120) kc_12_10 rfl A117 rfl (xi_in (by decide) (by rw [hy117]; decide)) s120 (fun hh120 eh120 => ?_)
                      have K121 := xk_pa K17 (xk_wa rfl) xD_140 hy120 ry120 eh120
                      refine xi_iload_n (pc' := 12) (x := (-6)) kc_12_11 rfl rfl ?_
                      refine xi_ireturn kc_12_12 mr_12 rfl ?_
                      show xw J ov (d + 3) 30 (105, [(0, .ref 115), (1, .int x1), (2, .int x2), (3, .int x3), (4, .int x4)], [.int (-6)], hh120) _
                      refine xi_ireturn kc_30_105 mr_30 rfl ?_
                      have zcm6 : ((-6) : Int32).toInt = (-6) := by decide
                      exact kk (-6) hh120 (by omega) K121
                    · refine xi_cmf (pc' := 82) kc_30_79 rfl (xc_gt_f (X := x3.toInt) (Y := 99999) rfl (by decide) (by omega)) ?_
                      refine xi_iload (pc' := 84) (x := x4) kc_30_82 rfl rfl ?_
                      refine xi_sipush (pc' := 87) (v := 999) kc_30_84 rfl rfl ?_
                      by_cases c122 : 999 < x4.toInt
                      · refine xi_cmt (pc' := 99) kc_30_87 rfl (xc_gt_t (X := x4.toInt) (Y := 999) rfl (by decide) (by omega)) ?_
                        refine xi_aload_n (pc' := 100) (x := 115) kc_30_99 rfl rfl ?_
                        refine xi_bipush (pc' := 102) (v := (-6)) kc_30_100 rfl rfl ?_
                        refine xi_virtual (mj := 12) (as := [.int (-6)]) (st1 := []) (lv0 := [(0, .ref 115), (1, .int (-6))]) kc_30_102 rfl rfl rfl rfl rfl eh15.1 (Nat.le_of_ble_eq_true rfl) (hJ _ _ _ _ (by decide)) (xm_le ml_12 rfl) rfl ?_
                        refine xi_aload_n (pc' := 1) (x := 115) kc_12_0 rfl rfl ?_
                        refine xi_getfield (pc' := 4) (v := .ref 140) kc_12_1 rfl rfl rfl eh15.1 rfl ?_
                        refine xi_iload_n (pc' := 5) (x := (-6)) kc_12_4 rfl rfl ?_
                        refine xi_ineg (pc' := 6) (v := 6) kc_12_5 rfl rfl ?_
                        refine xi_dup2 (pc' := 7) kc_12_6 rfl ⟨rfl, rfl⟩ ?_
                        refine xcps4 (xk_arr K17.1 xD_140) (fun y123 A123 hy123 ry123 => ?_)
                        refine xcps4 (xj_get hy123 ry123 (i := 6) (by decide) (by decide)) (fun v124 ev124 bv124 dv124 => ?_)
                        refine xi_iaload (pc' := 8) (v := v124) kc_12_7 rfl A123 (by decide) rfl (xi_in (by decide) (by rw [hy123]; decide)) ev124 ?_
                        refine xi_iconst (pc' := 9) (v := 1) kc_12_8 rfl rfl ?_
                        refine xcps2 (α := Int32) ((v124 : Int32) + 1) (fun v125 ev125 => ?_)
                        have rv125 := xc_rng v125
                        refine xi_iadd (pc' := 10) (v := v125) kc_12_9 rfl ev125 ?_
                        refine xcps4 (xj_set (v := v125) hy123 ry123 6 (by first | omega | decide) (by first | omega | decide)) (fun y126 s126 hy126 ry126 => ?_)
                        refine xi_iastore (pc' := 11) (x' := y126) kc_12_10 rfl A123 rfl (xi_in (by decide) (by rw [hy123]; decide)) s126 (fun hh126 eh126 => ?_)
                        have K127 := xk_pa K17 (xk_wa rfl) xD_140 hy126 ry126 eh126
                        refine xi_iload_n (pc' := 12) (x := (-6)) kc_12_11 rfl rfl ?_
                        refine xi_ireturn kc_12_12 mr_12 rfl ?_
                        show xw J ov (d + 3) 30 (105, [(0, .ref 115), (1, .int x1), (2, .int x2), (3, .int x3), (4, .int x4)], [.int (-6)], hh126) _
                        refine xi_ireturn kc_30_105 mr_30 rfl ?_
                        have zcm6 : ((-6) : Int32).toInt = (-6) := by decide
                        exact kk (-6) hh126 (by omega) K127
                      · refine xi_cmf (pc' := 90) kc_30_87 rfl (xc_gt_f (X := x4.toInt) (Y := 999) rfl (by decide) (by omega)) ?_
                        refine xi_aload_n (pc' := 91) (x := 115) kc_30_90 rfl rfl ?_
                        refine xi_getfield (pc' := 94) (v := .int u4) kc_30_91 rfl rfl rfl eh15.1 rfl ?_
                        refine xi_bipush (pc' := 96) (v := 60) kc_30_94 rfl rfl ?_
                        by_cases c128 : u4.toInt = 60
                        · refine xi_cmf (pc' := 99) kc_30_96 rfl (xc_ne_f (X := u4.toInt) (Y := 60) rfl (by decide) (by omega)) ?_
                          refine xi_aload_n (pc' := 100) (x := 115) kc_30_99 rfl rfl ?_
                          refine xi_bipush (pc' := 102) (v := (-6)) kc_30_100 rfl rfl ?_
                          refine xi_virtual (mj := 12) (as := [.int (-6)]) (st1 := []) (lv0 := [(0, .ref 115), (1, .int (-6))]) kc_30_102 rfl rfl rfl rfl rfl eh15.1 (Nat.le_of_ble_eq_true rfl) (hJ _ _ _ _ (by decide)) (xm_le ml_12 rfl) rfl ?_
                          refine xi_aload_n (pc' := 1) (x := 115) kc_12_0 rfl rfl ?_
                          refine xi_getfield (pc' := 4) (v := .ref 140) kc_12_1 rfl rfl rfl eh15.1 rfl ?_
                          refine xi_iload_n (pc' := 5) (x := (-6)) kc_12_4 rfl rfl ?_
                          refine xi_ineg (pc' := 6) (v := 6) kc_12_5 rfl rfl ?_
                          refine xi_dup2 (pc' := 7) kc_12_6 rfl ⟨rfl, rfl⟩ ?_
                          refine xcps4 (xk_arr K17.1 xD_140) (fun y129 A129 hy129 ry129 => ?_)
                          refine xcps4 (xj_get hy129 ry129 (i := 6) (by decide) (by decide)) (fun v130 ev130 bv130 dv130 => ?_)
                          refine xi_iaload (pc' := 8) (v := v130) kc_12_7 rfl A129 (by decide) rfl (xi_in (by decide) (by rw [hy129]; decide)) ev130 ?_
                          refine xi_iconst (pc' := 9) (v := 1) kc_12_8 rfl rfl ?_
                          refine xcps2 (α := Int32) ((v130 : Int32) + 1) (fun v131 ev131 => ?_)
                          have rv131 := xc_rng v131
                          refine xi_iadd (pc' := 10) (v := v131) kc_12_9 rfl ev131 ?_
                          refine xcps4 (xj_set (v := v131) hy129 ry129 6 (by first | omega | decide) (by first | omega | decide)) (fun y132 s132 hy132 ry132 => ?_)
                          refine xi_iastore (pc' := 11) (x' := y132) kc_12_10 rfl A129 rfl (xi_in (by decide) (by rw [hy129]; decide)) s132 (fun hh132 eh132 => ?_)
                          have K133 := xk_pa K17 (xk_wa rfl) xD_140 hy132 ry132 eh132
                          refine xi_iload_n (pc' := 12) (x := (-6)) kc_12_11 rfl rfl ?_
                          refine xi_ireturn kc_12_12 mr_12 rfl ?_
                          show xw J ov (d + 3) 30 (105, [(0, .ref 115), (1, .int x1), (2, .int x2), (3, .int x3), (4, .int x4)], [.int (-6)], hh132) _
                          refine xi_ireturn kc_30_105 mr_30 rfl ?_
                          have zcm6 : ((-6) : Int32).toInt = (-6) := by decide
                          exact kk (-6) hh132 (by omega) K133
                        · refine xi_cmt (pc' := 106) kc_30_96 rfl (xc_ne_t (X := u4.toInt) (Y := 60) rfl (by decide) (by omega)) ?_
                          refine xi_aload_n (pc' := 107) (x := 115) kc_30_106 rfl rfl ?_
                          refine xi_getfield (pc' := 110) (v := .ref 131) kc_30_107 rfl rfl rfl eh15.1 rfl ?_
                          refine xi_aload_n (pc' := 111) (x := 115) kc_30_110 rfl rfl ?_
                          refine xi_getfield (pc' := 114) (v := .int u4) kc_30_111 rfl rfl rfl eh15.1 rfl ?_
                          refine xi_iload_n (pc' := 115) (x := x1) kc_30_114 rfl rfl ?_
                          refine xcps4 (xk_arr K17.1 xD_131) (fun y134 A134 hy134 ry134 => ?_)
                          refine xcps4 (xj_set (v := x1) hy134 ry134 u4 (by first | omega | decide) (by first | omega | decide)) (fun y135 s135 hy135 ry135 => ?_)
                          refine xi_iastore (pc' := 116) (x' := y135) kc_30_115 rfl A134 rfl (xi_in (by omega) (by rw [hy134]; omega)) s135 (fun hh135 eh135 => ?_)
                          have K136 := xk_pa K17 (xk_wa rfl) xD_131 hy135 ry135 eh135
                          refine xi_aload_n (pc' := 117) (x := 115) kc_30_116 rfl rfl ?_
                          have A137 := ((eh135.2.1 115 (by decide)).trans eh15.1)
                          refine xi_getfield (pc' := 120) (v := .ref 132) kc_30_117 rfl rfl rfl A137 rfl ?_
                          refine xi_aload_n (pc' := 121) (x := 115) kc_30_120 rfl rfl ?_
                          refine xi_getfield (pc' := 124) (v := .int u4) kc_30_121 rfl rfl rfl A137 rfl ?_
                          refine xi_iload_n (pc' := 125) (x := x2) kc_30_124 rfl rfl ?_
                          have A138 := ((eh135.2.1 132 (by decide)).trans A100)
                          refine xcps4 (xj_set (v := x2) hy100 ry100 u4 (by first | omega | decide) (by first | omega | decide)) (fun y139 s139 hy139 ry139 => ?_)
                          refine xi_iastore (pc' := 126) (x' := y139) kc_30_125 rfl A138 rfl (xi_in (by omega) (by rw [hy100]; omega)) s139 (fun hh139 eh139 => ?_)
                          have K140 := xk_pa K136 (xk_wa rfl) xD_132 hy139 ry139 eh139
                          refine xi_aload_n (pc' := 127) (x := 115) kc_30_126 rfl rfl ?_
                          have A141 := ((eh139.2.1 115 (by decide)).trans A137)
                          refine xi_getfield (pc' := 130) (v := .ref 133) kc_30_127 rfl rfl rfl A141 rfl ?_
                          refine xi_aload_n (pc' := 131) (x := 115) kc_30_130 rfl rfl ?_
                          refine xi_getfield (pc' := 134) (v := .int u4) kc_30_131 rfl rfl rfl A141 rfl ?_
                          refine xi_iload_n (pc' := 135) (x := x3) kc_30_134 rfl rfl ?_
                          refine xcps4 (xk_arr K140.1 xD_133) (fun y142 A142 hy142 ry142 => ?_)
                          refine xcps4 (xj_set (v := x3) hy142 ry142 u4 (by first | omega | decide) (by first | omega | decide)) (fun y143 s143 hy143 ry143 => ?_)
                          refine xi_iastore (pc' := 136) (x' := y143) kc_30_135 rfl A142 rfl (xi_in (by omega) (by rw [hy142]; omega)) s143 (fun hh143 eh143 => ?_)
                          have K144 := xk_pa K140 (xk_wa rfl) xD_133 hy143 ry143 eh143
                          refine xi_aload_n (pc' := 137) (x := 115) kc_30_136 rfl rfl ?_
                          have A145 := ((eh143.2.1 115 (by decide)).trans A141)
                          refine xi_getfield (pc' := 140) (v := .ref 134) kc_30_137 rfl rfl rfl A145 rfl ?_
                          refine xi_aload_n (pc' := 141) (x := 115) kc_30_140 rfl rfl ?_
                          refine xi_getfield (pc' := 144) (v := .int u4) kc_30_141 rfl rfl rfl A145 rfl ?_
                          refine xi_iload (pc' := 146) (x := x4) kc_30_144 rfl rfl ?_
                          refine xcps4 (xk_arr K144.1 xD_134) (fun y146 A146 hy146 ry146 => ?_)
                          refine xcps4 (xj_set (v := x4) hy146 ry146 u4 (by first | omega | decide) (by first | omega | decide)) (fun y147 s147 hy147 ry147 => ?_)
                          refine xi_iastore (pc' := 147) (x' := y147) kc_30_146 rfl A146 rfl (xi_in (by omega) (by rw [hy146]; omega)) s147 (fun hh147 eh147 => ?_)
                          have K148 := xk_pa K144 (xk_wa rfl) xD_134 hy147 ry147 eh147
                          refine xi_aload_n (pc' := 148) (x := 115) kc_30_147 rfl rfl ?_
                          refine xi_dup (pc' := 149) kc_30_148 rfl rfl ?_
                          have A149 := ((eh147.2.1 115 (by decide)).trans A145)
                          refine xi_getfield (pc' := 152) (v := .int u4) kc_30_149 rfl rfl rfl A149 rfl ?_
                          refine xi_iconst (pc' := 153) (v := 1) kc_30_152 rfl rfl ?_
                          refine xcps2 (α := Int32) (u4 + 1) (fun v150 ev150 => ?_)
                          have zv150 : v150.toInt = (u4.toInt + 1) := by rw [← ev150]; exact (xz_add (X := u4.toInt) (Y := 1) rfl (by decide) (by omega) (by omega)).trans (by omega)
                          refine xi_iadd (pc' := 154) (v := v150) kc_30_153 rfl ev150 ?_
                          refine xi_putfield (pc' := 157) (fs' := [.int 0, .int u2, .ref 116, .ref 117, .ref 118, .ref 119, .ref 120, .ref 121, .ref 122, .ref 123, .ref 124, .ref 125, .ref 126, .ref 127, .ref 128, .ref 129, .int u3, .ref 130, .int v150, .ref 131, .ref 132, .ref 133, .ref 134, .int u5, .ref 135, .ref 136, .ref 137, .ref 138, .ref 139, .ref 140, .ref 141, .ref 142, .int u6, .int u7, .int u8, .ref 143, .ref 144, .ref 145, .ref 146, .ref 147, .ref 148, .int u9, .ref 149, .ref 150, .ref 151, .int u10, .ref 152, .ref 153, .ref 154, .ref 155, .ref 156, .ref 157, .ref 158, .ref 159, .int u11, .ref 160, .int u12, .ref 161, .ref 162, .ref 163, .ref 164, .int u13, .ref 165, .ref 166]) kc_30_154 rfl rfl rfl A149 rfl rfl rfl (Nat.le_of_ble_eq_true rfl) rfl (fun hh152 eh151 => ?_)
                          have K153 := xk_pf (k := 18) (v := v150) K148 (xk_wf rfl) xD_115 A149 rfl (by first | omega | decide) (by first | omega | decide) eh151 rfl
                          refine xi_aload_n (pc' := 158) (x := 115) kc_30_157 rfl rfl ?_
                          refine xi_iconst (pc' := 159) (v := 0) kc_30_158 rfl rfl ?_
                          refine xi_putfield (pc' := 162) (fs' := [.int 0, .int u2, .ref 116, .ref 117, .ref 118, .ref 119, .ref 120, .ref 121, .ref 122, .ref 123, .ref 124, .ref 125, .ref 126, .ref 127, .ref 128, .ref 129, .int u3, .ref 130, .int v150, .ref 131, .ref 132, .ref 133, .ref 134, .int u5, .ref 135, .ref 136, .ref 137, .ref 138, .ref 139, .ref 140, .ref 141, .ref 142, .int u6, .int u7, .int u8, .ref 143, .ref 144, .ref 145, .ref 146, .ref 147, .ref 148, .int 0, .ref 149, .ref 150, .ref 151, .int u10, .ref 152, .ref 153, .ref 154, .ref 155, .ref 156, .ref 157, .ref 158, .ref 159, .int u11, .ref 160, .int u12, .ref 161, .ref 162, .ref 163, .ref 164, .int u13, .ref 165, .ref 166]) kc_30_159 rfl rfl rfl eh151.1 rfl rfl rfl (Nat.le_of_ble_eq_true rfl) rfl (fun hh155 eh154 => ?_)
                          have K156 := xk_pf (k := 41) (v := 0) K153 (xk_wf rfl) xD_115 eh151.1 rfl (by first | omega | decide) (by first | omega | decide) eh154 rfl
                          refine xi_aload_n (pc' := 163) (x := 115) kc_30_162 rfl rfl ?_
                          refine xi_getfield (pc' := 166) (v := .int v150) kc_30_163 rfl rfl rfl eh154.1 rfl ?_
                          refine xi_iconst (pc' := 167) (v := 1) kc_30_166 rfl rfl ?_
                          refine xcps2 (α := Int32) (v150 - 1) (fun v157 ev157 => ?_)
                          have zv157 : v157.toInt = u4.toInt := by rw [← ev157]; exact (xz_sub (X := (u4.toInt + 1)) (Y := 1) zv150 (by decide) (by omega) (by omega)).trans (by omega)
                          refine xi_isub (pc' := 168) (v := v157) kc_30_167 rfl ev157 ?_
                          refine xi_ireturn kc_30_168 mr_30 rfl ?_
                          exact kk v157 hh155 (by omega) K156
                  · refine xi_iff (pc' := 69) kc_30_66 rfl (xc_ge_f (X := x4.toInt) (Y := 0) rfl (by decide) (by omega)) ?_
                    refine xi_aload_n (pc' := 70) (x := 115) kc_30_69 rfl rfl ?_
                    refine xi_bipush (pc' := 72) (v := (-4)) kc_30_70 rfl rfl ?_
                    refine xi_virtual (mj := 12) (as := [.int (-4)]) (st1 := []) (lv0 := [(0, .ref 115), (1, .int (-4))]) kc_30_72 rfl rfl rfl rfl rfl eh15.1 (Nat.le_of_ble_eq_true rfl) (hJ _ _ _ _ (by decide)) (xm_le ml_12 rfl) rfl ?_
                    refine xi_aload_n (pc' := 1) (x := 115) kc_12_0 rfl rfl ?_
                    refine xi_getfield (pc' := 4) (v := .ref 140) kc_12_1 rfl rfl rfl eh15.1 rfl ?_
                    refine xi_iload_n (pc' := 5) (x := (-4)) kc_12_4 rfl rfl ?_
                    refine xi_ineg (pc' := 6) (v := 4) kc_12_5 rfl rfl ?_
                    refine xi_dup2 (pc' := 7) kc_12_6 rfl ⟨rfl, rfl⟩ ?_
                    refine xcps4 (xk_arr K17.1 xD_140) (fun y158 A158 hy158 ry158 => ?_)
                    refine xcps4 (xj_get hy158 ry158 (i := 4) (by decide) (by decide)) (fun v159 ev159 bv159 dv159 => ?_)
                    refine xi_iaload (pc' := 8) (v := v159) kc_12_7 rfl A158 (by decide) rfl (xi_in (by decide) (by rw [hy158]; decide)) ev159 ?_
                    refine xi_iconst (pc' := 9) (v := 1) kc_12_8 rfl rfl ?_
                    refine xcps2 (α := Int32) ((v159 : Int32) + 1) (fun v160 ev160 => ?_)
                    have rv160 := xc_rng v160
                    refine xi_iadd (pc' := 10) (v := v160) kc_12_9 rfl ev160 ?_
                    refine xcps4 (xj_set (v := v160) hy158 ry158 4 (by first | omega | decide) (by first | omega | decide)) (fun y161 s161 hy161 ry161 => ?_)
                    refine xi_iastore (pc' := 11) (x' := y161) kc_12_10 rfl A158 rfl (xi_in (by decide) (by rw [hy158]; decide)) s161 (fun hh161 eh161 => ?_)
                    have K162 := xk_pa K17 (xk_wa rfl) xD_140 hy161 ry161 eh161
                    refine xi_iload_n (pc' := 12) (x := (-4)) kc_12_11 rfl rfl ?_
                    refine xi_ireturn kc_12_12 mr_12 rfl ?_
                    show xw J ov (d + 3) 30 (75, [(0, .ref 115), (1, .int x1), (2, .int x2), (3, .int x3), (4, .int x4)], [.int (-4)], hh161) _
                    refine xi_ireturn kc_30_75 mr_30 rfl ?_
                    have zcm4 : ((-4) : Int32).toInt = (-4) := by decide
                    exact kk (-4) hh161 (by omega) K162
            · refine xi_cmf (pc' := 49) kc_30_46 rfl (xc_ge_f (X := x2.toInt) (Y := v101.toInt) rfl rfl (by omega)) ?_
              refine xi_aload_n (pc' := 50) (x := 115) kc_30_49 rfl rfl ?_
              refine xi_bipush (pc' := 52) (v := (-3)) kc_30_50 rfl rfl ?_
              refine xi_virtual (mj := 12) (as := [.int (-3)]) (st1 := []) (lv0 := [(0, .ref 115), (1, .int (-3))]) kc_30_52 rfl rfl rfl rfl rfl eh15.1 (Nat.le_of_ble_eq_true rfl) (hJ _ _ _ _ (by decide)) (xm_le ml_12 rfl) rfl ?_
              refine xi_aload_n (pc' := 1) (x := 115) kc_12_0 rfl rfl ?_
              refine xi_getfield (pc' := 4) (v := .ref 140) kc_12_1 rfl rfl rfl eh15.1 rfl ?_
              refine xi_iload_n (pc' := 5) (x := (-3)) kc_12_4 rfl rfl ?_
              refine xi_ineg (pc' := 6) (v := 3) kc_12_5 rfl rfl ?_
              refine xi_dup2 (pc' := 7) kc_12_6 rfl ⟨rfl, rfl⟩ ?_
              refine xcps4 (xk_arr K17.1 xD_140) (fun y163 A163 hy163 ry163 => ?_)
              refine xcps4 (xj_get hy163 ry163 (i := 3) (by decide) (by decide)) (fun v164 ev164 bv164 dv164 => ?_)
              refine xi_iaload (pc' := 8) (v := v164) kc_12_7 rfl A163 (by decide) rfl (xi_in (by decide) (by rw [hy163]; decide)) ev164 ?_
              refine xi_iconst (pc' := 9) (v := 1) kc_12_8 rfl rfl ?_
              refine xcps2 (α := Int32) ((v164 : Int32) + 1) (fun v165 ev165 => ?_)
              have rv165 := xc_rng v165
              refine xi_iadd (pc' := 10) (v := v165) kc_12_9 rfl ev165 ?_
              refine xcps4 (xj_set (v := v165) hy163 ry163 3 (by first | omega | decide) (by first | omega | decide)) (fun y166 s166 hy166 ry166 => ?_)
              refine xi_iastore (pc' := 11) (x' := y166) kc_12_10 rfl A163 rfl (xi_in (by decide) (by rw [hy163]; decide)) s166 (fun hh166 eh166 => ?_)
              have K167 := xk_pa K17 (xk_wa rfl) xD_140 hy166 ry166 eh166
              refine xi_iload_n (pc' := 12) (x := (-3)) kc_12_11 rfl rfl ?_
              refine xi_ireturn kc_12_12 mr_12 rfl ?_
              show xw J ov (d + 3) 30 (55, [(0, .ref 115), (1, .int x1), (2, .int x2), (3, .int x3), (4, .int x4)], [.int (-3)], hh166) _
              refine xi_ireturn kc_30_55 mr_30 rfl ?_
              have zcm3 : ((-3) : Int32).toInt = (-3) := by decide
              exact kk (-3) hh166 (by omega) K167
