set_option maxHeartbeats 4000000 in
theorem lp_125_1 {J : xe_J} {ov : List (List Int32)} (hJ : ∀ d mj as h, mj ≠ xe_loff → J d mj as h = none) (hov1 : ov[1]? = some [10, 0, 0, 0, 0, 0]) (hov2 : ov[2]? = some [99, 30, 50, 50, 1, 99999]) {d : Nat} {Q : Option Value → xe_H → Prop} {hb : xe_H} (kk : (∀ h' : xe_H, xk [(0, 9), (115, 1), (83, 0), (29, 0), (31, 0), (33, 0), (35, 0), (37, 0), (39, 0), (41, 0), (43, 0), (45, 0), (47, 0), (49, 0), (51, 0), (125, 0), (29, 2), (31, 2), (33, 2), (35, 2), (37, 2), (39, 2), (41, 2), (43, 2), (45, 2), (47, 2), (49, 2), (51, 2), (127, 0), (1, 5), (115, 23)] hb h' → Q none h')) : ∀ m : Nat, (∀ (x2 : Int32) (x3 : Int32) (h : xe_H), (0 ≤ x2.toInt ∧ x2.toInt ≤ 599) → (0 ≤ x3.toInt ∧ x3.toInt ≤ 10) → xk [(0, 9), (115, 1), (83, 0), (29, 0), (31, 0), (33, 0), (35, 0), (37, 0), (39, 0), (41, 0), (43, 0), (45, 0), (47, 0), (49, 0), (51, 0), (125, 0), (29, 2), (31, 2), (33, 2), (35, 2), (37, 2), (39, 2), (41, 2), (43, 2), (45, 2), (47, 2), (49, 2), (51, 2), (127, 0), (1, 5), (115, 23)] hb h → (-1) * x3.toInt + 10 < (m : Int) → xw J ov (d + 2) 125 (2, [(0, .ref 1), (1, .ref 67), (2, .int x2), (3, .int x3)], [], h) Q) := by
  intro m
  induction m with
  | zero =>
    intro x2 x3 h b2 b3 K hm; exfalso; omega
  | succ m ih =>
    have i0 := ih
    intro x2 x3 h b2 b3 K hm
    refine xi_iload_n (pc' := 3) (x := x3) kc_125_2 rfl rfl ?_
    refine xi_aload_n (pc' := 4) (x := 1) kc_125_3 rfl rfl ?_
    refine xp_1 K.1 (fun u1 u2 bu1 bu2 A3 => ?_)
    refine xi_getfield (pc' := 7) (v := .int u1) kc_125_4 rfl rfl rfl A3 rfl ?_
    by_cases c4 : u1.toInt ≤ x3.toInt
    · refine xi_cmt (pc' := 67) kc_125_7 rfl (xc_ge_t (X := x3.toInt) (Y := u1.toInt) rfl rfl (by omega)) ?_
      refine xi_return kc_125_67 mr_125 ?_
      exact kk h K
    · refine xi_cmf (pc' := 10) kc_125_7 rfl (xc_ge_f (X := x3.toInt) (Y := u1.toInt) rfl rfl (by omega)) ?_
      refine xi_iload_n (pc' := 11) (x := x3) kc_125_10 rfl rfl ?_
      refine xi_bipush (pc' := 13) (v := 10) kc_125_11 rfl rfl ?_
      refine xi_cmf (pc' := 16) kc_125_13 rfl (xc_ge_f (X := x3.toInt) (Y := 10) rfl (by decide) (by omega)) ?_
      refine xi_aload_n (pc' := 17) (x := 1) kc_125_16 rfl rfl ?_
      refine xi_getfield (pc' := 20) (v := .ref 4) kc_125_17 rfl rfl rfl A3 rfl ?_
      refine xi_iload_n (pc' := 21) (x := x3) kc_125_20 rfl rfl ?_
      have A5 := xk_ex K.1 xD_4
      obtain ⟨pt6, ept6, mpt6⟩ := xR_4 (i := x3) (by omega) (by omega)
      refine xj_aaload (pc' := 22) (b := pt6) kc_125_21 rfl A5 rfl (xi_in (n := 10) (by omega) (by omega)) ept6 ?_
      obtain ⟨u7, u8, u9, u10, bu7, bu8, bu9, bu10, A11⟩ := xg_cause K.1 mpt6
      refine xi_getfield (pc' := 25) (v := .int u7) kc_125_22 rfl rfl rfl A11 rfl ?_
      refine xi_iconst (pc' := 26) (v := 3) kc_125_25 rfl rfl ?_
      by_cases c12 : u7.toInt = 3
      · refine xi_cmf (pc' := 29) kc_125_26 rfl (xc_ne_f (X := u7.toInt) (Y := 3) rfl (by decide) (by omega)) ?_
        refine xi_aload_n (pc' := 30) (x := 1) kc_125_29 rfl rfl ?_
        refine xi_aload_n (pc' := 31) (x := 67) kc_125_30 rfl rfl ?_
        refine xi_iload_n (pc' := 32) (x := x3) kc_125_31 rfl rfl ?_
        refine xi_iload_n (pc' := 33) (x := x2) kc_125_32 rfl rfl ?_
        refine xi_virtual (mj := 126) (as := [.ref 67, .int x3, .int x2]) (st1 := []) (lv0 := [(0, .ref 1), (1, .ref 67), (2, .int x3), (3, .int x2)]) kc_125_33 rfl rfl rfl rfl rfl A3 (Nat.le_of_ble_eq_true rfl) (hJ _ _ _ _ (by decide)) (xm_le ml_126 rfl) rfl ?_
        refine mt_126_1 hJ hov1 hov2 (d := d) (x2 := x3) (x3 := x2) K.1 (by first | omega | decide) (by first | omega | decide) (fun r13 hh14 br13 K15 => ?_)
        have K16 := xk_tr K K15 rfl
        refine xp_1 K16.1 (fun u17 u18 bu17 bu18 A19 => ?_)
        have e20 : u1 = u17 := xk_eqi (q := 5) K15 rfl A3 A19 rfl rfl
        subst e20
        show xw J ov (d + 2) 125 (36, [(0, .ref 1), (1, .ref 67), (2, .int x2), (3, .int x3)], [.int r13], hh14) _
        by_cases c21 : r13.toInt = 0
        · refine xi_ift (pc' := 61) kc_125_36 rfl (xc_eq_t (X := r13.toInt) (Y := 0) rfl (by decide) (by omega)) ?_
          refine xcps2 (α := Int32) (x3 + 1) (fun v22 ev22 => ?_)
          have zv22 : v22.toInt = (x3.toInt + 1) := by rw [← ev22]; exact (xz_add (X := x3.toInt) (Y := 1) rfl (by decide) (by omega) (by omega)).trans (by omega)
          refine xi_iinc (pc' := 64) (x := x3) (v := v22) (lv' := [(3, .int v22), (0, .ref 1), (1, .ref 67), (2, .int x2)]) kc_125_61 rfl rfl ev22 rfl (xm_lt ml_125 rfl) ?_
          refine xi_goto (pc' := 2) kc_125_64 rfl ?_
          refine xw_lv (b := [(0, .ref 1), (1, .ref 67), (2, .int x2), (3, .int v22)]) (lvS_cons (lvS_cons (lvS_cons (lvS_cons (lvS_nil (show ([3, 0, 1, 2] : List Nat).Nodup by decide)) rfl) rfl) rfl) rfl) ?_
          exact i0 x2 v22 hh14 (by omega) (by omega) K16 (by omega)
        · refine xi_iff (pc' := 39) kc_125_36 rfl (xc_eq_f (X := r13.toInt) (Y := 0) rfl (by decide) (by omega)) ?_
          refine xi_aload_n (pc' := 40) (x := 67) kc_125_39 rfl rfl ?_
          refine xi_aload_n (pc' := 41) (x := 1) kc_125_40 rfl rfl ?_
          refine xi_getfield (pc' := 44) (v := .ref 4) kc_125_41 rfl rfl rfl A19 rfl ?_
          refine xi_iload_n (pc' := 45) (x := x3) kc_125_44 rfl rfl ?_
          have A23 := xk_ex K16.1 xD_4
          refine xj_aaload (pc' := 46) (b := pt6) kc_125_45 rfl A23 rfl (xi_in (n := 10) (by omega) (by omega)) ept6 ?_
          obtain ⟨u24, u25, u26, u27, bu24, bu25, bu26, bu27, A28⟩ := xg_cause K16.1 mpt6
          refine xi_getfield (pc' := 49) (v := .int u25) kc_125_46 rfl rfl rfl A28 rfl ?_
          refine xi_aload_n (pc' := 50) (x := 1) kc_125_49 rfl rfl ?_
          refine xi_getfield (pc' := 53) (v := .ref 4) kc_125_50 rfl rfl rfl A19 rfl ?_
          refine xi_iload_n (pc' := 54) (x := x3) kc_125_53 rfl rfl ?_
          refine xj_aaload (pc' := 55) (b := pt6) kc_125_54 rfl A23 rfl (xi_in (n := 10) (by omega) (by omega)) ept6 ?_
          refine xi_getfield (pc' := 58) (v := .int u26) kc_125_55 rfl rfl rfl A28 rfl ?_
          refine xp_67 K16.1 (fun u29 u30 bu29 bu30 A31 => ?_)
          refine xi_virtual (mj := 127) (as := [.int u25, .int u26]) (st1 := []) (lv0 := [(0, .ref 67), (1, .int u25), (2, .int u26)]) kc_125_58 rfl rfl rfl rfl rfl A31 (Nat.le_of_ble_eq_true rfl) (hJ _ _ _ _ (by decide)) (xm_le ml_127 rfl) rfl ?_
          refine mt_127_1 hJ hov1 hov2 (d := d) (x1 := u25) (x2 := u26) K16.1 (fun hh33 K34 => ?_)
          have K35 := xk_tr K16 K34 rfl
          refine xp_1 K35.1 (fun u36 u37 bu36 bu37 A38 => ?_)
          have e39 : u1 = u36 := xk_eqi (q := 5) K34 rfl A19 A38 rfl rfl
          subst e39
          show xw J ov (d + 2) 125 (61, [(0, .ref 1), (1, .ref 67), (2, .int x2), (3, .int x3)], [], hh33) _
          refine xcps2 (α := Int32) (x3 + 1) (fun v40 ev40 => ?_)
          have zv40 : v40.toInt = (x3.toInt + 1) := by rw [← ev40]; exact (xz_add (X := x3.toInt) (Y := 1) rfl (by decide) (by omega) (by omega)).trans (by omega)
          refine xi_iinc (pc' := 64) (x := x3) (v := v40) (lv' := [(3, .int v40), (0, .ref 1), (1, .ref 67), (2, .int x2)]) kc_125_61 rfl rfl ev40 rfl (xm_lt ml_125 rfl) ?_
          refine xi_goto (pc' := 2) kc_125_64 rfl ?_
          refine xw_lv (b := [(0, .ref 1), (1, .ref 67), (2, .int x2), (3, .int v40)]) (lvS_cons (lvS_cons (lvS_cons (lvS_cons (lvS_nil (show ([3, 0, 1, 2] : List Nat).Nodup by decide)) rfl) rfl) rfl) rfl) ?_
          exact i0 x2 v40 hh33 (by omega) (by omega) K35 (by omega)
      · refine xi_cmt (pc' := 61) kc_125_26 rfl (xc_ne_t (X := u7.toInt) (Y := 3) rfl (by decide) (by omega)) ?_
        refine xcps2 (α := Int32) (x3 + 1) (fun v41 ev41 => ?_)
        have zv41 : v41.toInt = (x3.toInt + 1) := by rw [← ev41]; exact (xz_add (X := x3.toInt) (Y := 1) rfl (by decide) (by omega) (by omega)).trans (by omega)
        refine xi_iinc (pc' := 64) (x := x3) (v := v41) (lv' := [(3, .int v41), (0, .ref 1), (1, .ref 67), (2, .int x2)]) kc_125_61 rfl rfl ev41 rfl (xm_lt ml_125 rfl) ?_
        refine xi_goto (pc' := 2) kc_125_64 rfl ?_
        refine xw_lv (b := [(0, .ref 1), (1, .ref 67), (2, .int x2), (3, .int v41)]) (lvS_cons (lvS_cons (lvS_cons (lvS_cons (lvS_nil (show ([3, 0, 1, 2] : List Nat).Nodup by decide)) rfl) rfl) rfl) rfl) ?_
        exact i0 x2 v41 h (by omega) (by omega) K (by omega)
set_option maxHeartbeats 4000000 in
theorem mt_125_1 {J : xe_J} {ov : List (List Int32)} (hJ : ∀ d mj as h, mj ≠ xe_loff → J d mj as h = none) (hov1 : ov[1]? = some [10, 0, 0, 0, 0, 0]) (hov2 : ov[2]? = some [99, 30, 50, 50, 1, 99999]) {d : Nat} {Q : Option Value → xe_H → Prop} {h : xe_H} {x2 : Int32} (T : xt h) (b2 : (0 ≤ x2.toInt ∧ x2.toInt ≤ 599)) (kk : (∀ h' : xe_H, xk [(0, 9), (115, 1), (83, 0), (29, 0), (31, 0), (33, 0), (35, 0), (37, 0), (39, 0), (41, 0), (43, 0), (45, 0), (47, 0), (49, 0), (51, 0), (125, 0), (29, 2), (31, 2), (33, 2), (35, 2), (37, 2), (39, 2), (41, 2), (43, 2), (45, 2), (47, 2), (49, 2), (51, 2), (127, 0), (1, 5), (115, 23)] h h' → Q none h')) : xw J ov (d + 2) 125 (0, [(0, .ref 1), (1, .ref 67), (2, .int x2)], [], h) Q := by
  have K : xk [(0, 9), (115, 1), (83, 0), (29, 0), (31, 0), (33, 0), (35, 0), (37, 0), (39, 0), (41, 0), (43, 0), (45, 0), (47, 0), (49, 0), (51, 0), (125, 0), (29, 2), (31, 2), (33, 2), (35, 2), (37, 2), (39, 2), (41, 2), (43, 2), (45, 2), (47, 2), (49, 2), (51, 2), (127, 0), (1, 5), (115, 23)] h h := xk_re T
  refine xi_iconst (pc' := 1) (v := 0) kc_125_0 rfl rfl ?_
  refine xi_istore_n (pc' := 2) (lv' := [(3, .int 0), (0, .ref 1), (1, .ref 67), (2, .int x2)]) kc_125_1 rfl rfl (xm_lt ml_125 rfl) ?_
  have zc0 : (0 : Int32).toInt = 0 := by decide
  refine xw_lv (b := [(0, .ref 1), (1, .ref 67), (2, .int x2), (3, .int 0)]) (lvS_cons (lvS_cons (lvS_cons (lvS_cons (lvS_nil (show ([3, 0, 1, 2] : List Nat).Nodup by decide)) rfl) rfl) rfl) rfl) ?_
  exact (lp_125_1 hJ hov1 hov2 (d := d) (hb := h) (fun h9 K9 => kk h9 (xk_tr K K9 rfl)) 11) x2 0 h (by omega) (by omega) (xk_re K.1) (by omega)
set_option maxHeartbeats 4000000 in
theorem mt_131_1 {J : xe_J} {ov : List (List Int32)} (hJ : ∀ d mj as h, mj ≠ xe_loff → J d mj as h = none) (hov1 : ov[1]? = some [10, 0, 0, 0, 0, 0]) (hov2 : ov[2]? = some [99, 30, 50, 50, 1, 99999]) {d : Nat} {Q : Option Value → xe_H → Prop} {h : xe_H} {x1 : Int32} {x2 : Int32} (T : xt h) (kk : (∀ h' : xe_H, xk [(0, 9), (115, 1), (83, 0), (29, 0), (31, 0), (33, 0), (35, 0), (37, 0), (39, 0), (41, 0), (43, 0), (45, 0), (47, 0), (49, 0), (51, 0), (125, 0), (29, 2), (31, 2), (33, 2), (35, 2), (37, 2), (39, 2), (41, 2), (43, 2), (45, 2), (47, 2), (49, 2), (51, 2), (127, 0), (1, 5), (115, 23)] h h' → Q none h')) : xw J ov (d + 1) 131 (0, [(0, .ref 67), (1, .int x1), (2, .int x2)], [], h) Q := by
  have K : xk [(0, 9), (115, 1), (83, 0), (29, 0), (31, 0), (33, 0), (35, 0), (37, 0), (39, 0), (41, 0), (43, 0), (45, 0), (47, 0), (49, 0), (51, 0), (125, 0), (29, 2), (31, 2), (33, 2), (35, 2), (37, 2), (39, 2), (41, 2), (43, 2), (45, 2), (47, 2), (49, 2), (51, 2), (127, 0), (1, 5), (115, 23)] h h := xk_re T
  have rx1 := xc_rng x1
  have rx2 := xc_rng x2
  refine xi_iload_n (pc' := 1) (x := x1) kc_131_0 rfl rfl ?_
  by_cases c1 : x1.toInt < 0
  · refine xi_ift (pc' := 40) kc_131_1 rfl (xc_lt_t (X := x1.toInt) (Y := 0) rfl (by decide) (by omega)) ?_
    refine xi_return kc_131_40 mr_131 ?_
    exact kk h K
  · refine xi_iff (pc' := 4) kc_131_1 rfl (xc_lt_f (X := x1.toInt) (Y := 0) rfl (by decide) (by omega)) ?_
    refine xi_iload_n (pc' := 5) (x := x1) kc_131_4 rfl rfl ?_
    refine xi_aload_n (pc' := 6) (x := 67) kc_131_5 rfl rfl ?_
    refine xp_67 K.1 (fun u2 u3 bu2 bu3 A4 => ?_)
    refine xi_getfield (pc' := 9) (v := .ref 69) kc_131_6 rfl rfl rfl A4 rfl ?_
    refine xcps4 (xk_arr K.1 xD_69) (fun y5 A5 hy5 ry5 => ?_)
    refine xi_arraylength (pc' := 10) (n := 12) (v := 12) kc_131_9 rfl (xl_lenI (by decide) (by decide) A5 hy5) rfl ?_
    by_cases c6 : 12 ≤ x1.toInt
    · refine xi_cmt (pc' := 40) kc_131_10 rfl (xc_ge_t (X := x1.toInt) (Y := 12) rfl (by decide) (by omega)) ?_
      refine xi_return kc_131_40 mr_131 ?_
      exact kk h K
    · refine xi_cmf (pc' := 13) kc_131_10 rfl (xc_ge_f (X := x1.toInt) (Y := 12) rfl (by decide) (by omega)) ?_
      refine xi_aload_n (pc' := 14) (x := 67) kc_131_13 rfl rfl ?_
      refine xi_getfield (pc' := 17) (v := .ref 69) kc_131_14 rfl rfl rfl A4 rfl ?_
      refine xi_iload_n (pc' := 18) (x := x1) kc_131_17 rfl rfl ?_
      refine xcps4 (xj_get hy5 ry5 (i := x1) (by omega) (by omega)) (fun v7 ev7 bv7 dv7 => ?_)
      refine xi_iaload (pc' := 19) (v := v7) kc_131_18 rfl A5 (by decide) rfl (xi_in (by omega) (by rw [hy5]; omega)) ev7 ?_
      refine xi_iload_n (pc' := 20) (x := x2) kc_131_19 rfl rfl ?_
      refine xcps2 (α := Int32) ((v7 : Int32) + x2) (fun v8 ev8 => ?_)
      have rv8 := xc_rng v8
      refine xi_iadd (pc' := 21) (v := v8) kc_131_20 rfl ev8 ?_
      refine xi_istore_n (pc' := 22) (lv' := [(3, .int v8), (0, .ref 67), (1, .int x1), (2, .int x2)]) kc_131_21 rfl rfl (xm_lt ml_131 rfl) ?_
      refine xi_aload_n (pc' := 23) (x := 67) kc_131_22 rfl rfl ?_
      refine xi_getfield (pc' := 26) (v := .ref 69) kc_131_23 rfl rfl rfl A4 rfl ?_
      refine xi_iload_n (pc' := 27) (x := x1) kc_131_26 rfl rfl ?_
      refine xi_iload_n (pc' := 28) (x := v8) kc_131_27 rfl rfl ?_
      refine xi_ldc (pc' := 30) (v := 99999) kc_131_28 rfl rfl ?_
      by_cases c9 : v8.toInt ≤ 99999
      · refine xi_cmt (pc' := 38) kc_131_30 rfl (xc_le_t (X := v8.toInt) (Y := 99999) rfl (by decide) (by omega)) ?_
        refine xi_iload_n (pc' := 39) (x := v8) kc_131_38 rfl rfl ?_
        refine xcps4 (xj_set (v := v8) hy5 ry5 x1 (by first | omega | decide) (by first | omega | decide)) (fun y10 s10 hy10 ry10 => ?_)
        refine xi_iastore (pc' := 40) (x' := y10) kc_131_39 rfl A5 rfl (xi_in (by omega) (by rw [hy5]; omega)) s10 (fun hh10 eh10 => ?_)
        have K11 := xk_pa K (xk_wa rfl) xD_69 hy10 ry10 eh10
        refine xi_return kc_131_40 mr_131 ?_
        exact kk hh10 K11
      · refine xi_cmf (pc' := 33) kc_131_30 rfl (xc_le_f (X := v8.toInt) (Y := 99999) rfl (by decide) (by omega)) ?_
        refine xi_ldc (pc' := 35) (v := 99999) kc_131_33 rfl rfl ?_
        refine xi_goto (pc' := 39) kc_131_35 rfl ?_
        refine xcps4 (xj_set (v := 99999) hy5 ry5 x1 (by first | omega | decide) (by first | omega | decide)) (fun y12 s12 hy12 ry12 => ?_)
        refine xi_iastore (pc' := 40) (x' := y12) kc_131_39 rfl A5 rfl (xi_in (by omega) (by rw [hy5]; omega)) s12 (fun hh12 eh12 => ?_)
        have K13 := xk_pa K (xk_wa rfl) xD_69 hy12 ry12 eh12
        refine xi_return kc_131_40 mr_131 ?_
        exact kk hh12 K13
set_option maxHeartbeats 4000000 in
theorem lp_130_1 {J : xe_J} {ov : List (List Int32)} (hJ : ∀ d mj as h, mj ≠ xe_loff → J d mj as h = none) (hov1 : ov[1]? = some [10, 0, 0, 0, 0, 0]) (hov2 : ov[2]? = some [99, 30, 50, 50, 1, 99999]) {d : Nat} {Q : Option Value → xe_H → Prop} {hb : xe_H} (kk : (∀ h' : xe_H, xk [(0, 9), (115, 1), (83, 0), (29, 0), (31, 0), (33, 0), (35, 0), (37, 0), (39, 0), (41, 0), (43, 0), (45, 0), (47, 0), (49, 0), (51, 0), (125, 0), (29, 2), (31, 2), (33, 2), (35, 2), (37, 2), (39, 2), (41, 2), (43, 2), (45, 2), (47, 2), (49, 2), (51, 2), (127, 0), (1, 5), (115, 23)] hb h' → Q none h')) : ∀ m : Nat, (∀ (x2 : Int32) (x3 : Int32) (x4 : Int32) (x5 : Int32) (x6 : Int32) (x7 : Int32) (h : xe_H), (0 ≤ x2.toInt ∧ x2.toInt ≤ 5) → ((-9) ≤ x5.toInt ∧ x5.toInt ≤ 11) → ((-1) ≤ x7.toInt ∧ x7.toInt ≤ 11) → xk [(0, 9), (115, 1), (83, 0), (29, 0), (31, 0), (33, 0), (35, 0), (37, 0), (39, 0), (41, 0), (43, 0), (45, 0), (47, 0), (49, 0), (51, 0), (125, 0), (29, 2), (31, 2), (33, 2), (35, 2), (37, 2), (39, 2), (41, 2), (43, 2), (45, 2), (47, 2), (49, 2), (51, 2), (127, 0), (1, 5), (115, 23)] hb h → (1) * x7.toInt + 14 < (m : Int) → xw J ov (d + 2) 130 (11, [(0, .ref 1), (1, .ref 67), (2, .int x2), (3, .int x3), (4, .int x4), (5, .int x5), (6, .int x6), (7, .int x7)], [], h) Q) ∧ (∀ (x2 : Int32) (x3 : Int32) (x4 : Int32) (x5 : Int32) (x6 : Int32) (x7 : Int32) (x8 : Int32) (h : xe_H), (0 ≤ x2.toInt ∧ x2.toInt ≤ 5) → ((-9) ≤ x5.toInt ∧ x5.toInt ≤ 11) → (0 ≤ x8.toInt ∧ x8.toInt ≤ 12) → xk [(0, 9), (115, 1), (83, 0), (29, 0), (31, 0), (33, 0), (35, 0), (37, 0), (39, 0), (41, 0), (43, 0), (45, 0), (47, 0), (49, 0), (51, 0), (125, 0), (29, 2), (31, 2), (33, 2), (35, 2), (37, 2), (39, 2), (41, 2), (43, 2), (45, 2), (47, 2), (49, 2), (51, 2), (127, 0), (1, 5), (115, 23)] hb h → (-1) * x8.toInt + 12 < (m : Int) → xw J ov (d + 2) 130 (63, [(0, .ref 1), (1, .ref 67), (2, .int x2), (3, .int x3), (4, .int x4), (5, .int x5), (6, .int x6), (7, .int x7), (8, .int x8)], [], h) Q) := by
  intro m
  induction m with
  | zero =>
    refine ⟨?_, ?_⟩
    · intro x2 x3 x4 x5 x6 x7 h b2 b5 b7 K hm; have rx3 := xc_rng x3; have rx4 := xc_rng x4; have rx6 := xc_rng x6; exfalso; omega
    · intro x2 x3 x4 x5 x6 x7 x8 h b2 b5 b8 K hm; have rx3 := xc_rng x3; have rx4 := xc_rng x4; have rx6 := xc_rng x6; have rx7 := xc_rng x7; exfalso; omega
  | succ m ih =>
    obtain ⟨i0, i1⟩ := ih
    refine ⟨?_, ?_⟩
    · intro x2 x3 x4 x5 x6 x7 h b2 b5 b7 K hm
      have rx3 := xc_rng x3
      have rx4 := xc_rng x4
      have rx6 := xc_rng x6
      refine xi_iload (pc' := 13) (x := x7) kc_130_11 rfl rfl ?_
      by_cases c1 : x7.toInt < 0
      · refine xi_ift (pc' := 57) kc_130_13 rfl (xc_lt_t (X := x7.toInt) (Y := 0) rfl (by decide) (by omega)) ?_
        refine xi_iload_n (pc' := 58) (x := x3) kc_130_57 rfl rfl ?_
        refine xi_istore (pc' := 60) (lv' := [(7, .int x3), (0, .ref 1), (1, .ref 67), (2, .int x2), (3, .int x3), (4, .int x4), (5, .int x5), (6, .int x6)]) kc_130_58 rfl rfl (xm_lt ml_130 rfl) ?_
        refine xi_iconst (pc' := 61) (v := 0) kc_130_60 rfl rfl ?_
        refine xi_istore (pc' := 63) (lv' := [(8, .int 0), (7, .int x3), (0, .ref 1), (1, .ref 67), (2, .int x2), (3, .int x3), (4, .int x4), (5, .int x5), (6, .int x6)]) kc_130_61 rfl rfl (xm_lt ml_130 rfl) ?_
        have zc0 : (0 : Int32).toInt = 0 := by decide
        refine xw_lv (b := [(0, .ref 1), (1, .ref 67), (2, .int x2), (3, .int x3), (4, .int x4), (5, .int x5), (6, .int x6), (7, .int x3), (8, .int 0)]) (lvS_cons (lvS_cons (lvS_cons (lvS_cons (lvS_cons (lvS_cons (lvS_cons (lvS_cons (lvS_cons (lvS_nil (show ([8, 7, 0, 1, 2, 3, 4, 5, 6] : List Nat).Nodup by decide)) rfl) rfl) rfl) rfl) rfl) rfl) rfl) rfl) rfl) ?_
        exact i1 x2 x3 x4 x5 x6 x3 0 h (by omega) (by omega) (by omega) K (by omega)
      · refine xi_iff (pc' := 16) kc_130_13 rfl (xc_lt_f (X := x7.toInt) (Y := 0) rfl (by decide) (by omega)) ?_
        refine xi_aload_n (pc' := 17) (x := 1) kc_130_16 rfl rfl ?_
        refine xp_1 K.1 (fun u2 u3 bu2 bu3 A4 => ?_)
        refine xi_getfield (pc' := 20) (v := .ref 3) kc_130_17 rfl rfl rfl A4 rfl ?_
        refine xi_iload (pc' := 22) (x := x7) kc_130_20 rfl rfl ?_
        have A5 := xk_ex K.1 xD_3
        obtain ⟨pt6, ept6, mpt6⟩ := xR_3 (i := x7) (by omega) (by omega)
        refine xj_aaload (pc' := 23) (b := pt6) kc_130_22 rfl A5 rfl (xi_in (n := 12) (by omega) (by omega)) ept6 ?_
        obtain ⟨u7, u8, u9, u10, pt11, bu7, bu8, bu9, bu10, mpt11, A12⟩ := xg_wall K.1 mpt6
        refine xi_getfield (pc' := 26) (v := .int u7) kc_130_23 rfl rfl rfl A12 rfl ?_
        refine xi_iload_n (pc' := 27) (x := x2) kc_130_26 rfl rfl ?_
        by_cases c13 : u7.toInt = x2.toInt
        · refine xi_cmf (pc' := 30) kc_130_27 rfl (xc_ne_f (X := u7.toInt) (Y := x2.toInt) rfl rfl (by omega)) ?_
          refine xi_iload (pc' := 32) (x := x7) kc_130_30 rfl rfl ?_
          refine xi_istore (pc' := 34) (lv' := [(5, .int x7), (0, .ref 1), (1, .ref 67), (2, .int x2), (3, .int x3), (4, .int x4), (6, .int x6), (7, .int x7)]) kc_130_32 rfl rfl (xm_lt ml_130 rfl) ?_
          refine xi_iload (pc' := 36) (x := x6) kc_130_34 rfl rfl ?_
          refine xi_aload_n (pc' := 37) (x := 1) kc_130_36 rfl rfl ?_
          refine xi_getfield (pc' := 40) (v := .ref 3) kc_130_37 rfl rfl rfl A4 rfl ?_
          refine xi_iload (pc' := 42) (x := x7) kc_130_40 rfl rfl ?_
          refine xj_aaload (pc' := 43) (b := pt6) kc_130_42 rfl A5 rfl (xi_in (n := 12) (by omega) (by omega)) ept6 ?_
          refine xi_iload (pc' := 45) (x := x4) kc_130_43 rfl rfl ?_
          refine xi_virtual (mj := 109) (as := [.int x4]) (st1 := [.int x6]) (lv0 := [(0, .ref pt6), (1, .int x4)]) kc_130_45 rfl rfl rfl rfl rfl A12 (Nat.le_of_ble_eq_true rfl) (hJ _ _ _ _ (by decide)) (xm_le ml_109 rfl) rfl ?_
          refine mt_109_0 hJ hov1 hov2 (d := d) (p0 := pt6) (x1 := x4) K.1 mpt6 (fun r14 hh15 br14 K16 => ?_)
          have K17 := xk_tr K K16 rfl
          refine xp_1 K17.1 (fun u18 u19 bu18 bu19 A20 => ?_)
          have e21 : u2 = u18 := xk_eqi (q := 5) K16 rfl A4 A20 rfl rfl
          subst e21
          show xw J ov (d + 2) 130 (48, [(5, .int x7), (0, .ref 1), (1, .ref 67), (2, .int x2), (3, .int x3), (4, .int x4), (6, .int x6), (7, .int x7)], [.int r14, .int x6], hh15) _
          refine xcps2 (α := Int32) ((x6 : Int32) + r14) (fun v22 ev22 => ?_)
          have rv22 := xc_rng v22
          refine xi_iadd (pc' := 49) (v := v22) kc_130_48 rfl ev22 ?_
          refine xi_istore (pc' := 51) (lv' := [(6, .int v22), (5, .int x7), (0, .ref 1), (1, .ref 67), (2, .int x2), (3, .int x3), (4, .int x4), (7, .int x7)]) kc_130_49 rfl rfl (xm_lt ml_130 rfl) ?_
          refine xcps2 (α := Int32) (x7 + (-1)) (fun v23 ev23 => ?_)
          have zv23 : v23.toInt = (x7.toInt + (-1)) := by rw [← ev23]; exact (xz_add (X := x7.toInt) (Y := (-1)) rfl (by decide) (by omega) (by omega)).trans (by omega)
          refine xi_iinc (pc' := 54) (x := x7) (v := v23) (lv' := [(7, .int v23), (6, .int v22), (5, .int x7), (0, .ref 1), (1, .ref 67), (2, .int x2), (3, .int x3), (4, .int x4)]) kc_130_51 rfl rfl ev23 rfl (xm_lt ml_130 rfl) ?_
          refine xi_goto (pc' := 11) kc_130_54 rfl ?_
          refine xw_lv (b := [(0, .ref 1), (1, .ref 67), (2, .int x2), (3, .int x3), (4, .int x4), (5, .int x7), (6, .int v22), (7, .int v23)]) (lvS_cons (lvS_cons (lvS_cons (lvS_cons (lvS_cons (lvS_cons (lvS_cons (lvS_cons (lvS_nil (show ([7, 6, 5, 0, 1, 2, 3, 4] : List Nat).Nodup by decide)) rfl) rfl) rfl) rfl) rfl) rfl) rfl) rfl) ?_
          exact i0 x2 x3 x4 x7 v22 v23 hh15 (by omega) (by omega) (by omega) K17 (by omega)
        · refine xi_cmt (pc' := 51) kc_130_27 rfl (xc_ne_t (X := u7.toInt) (Y := x2.toInt) rfl rfl (by omega)) ?_
          refine xcps2 (α := Int32) (x7 + (-1)) (fun v24 ev24 => ?_)
          have zv24 : v24.toInt = (x7.toInt + (-1)) := by rw [← ev24]; exact (xz_add (X := x7.toInt) (Y := (-1)) rfl (by decide) (by omega) (by omega)).trans (by omega)
          refine xi_iinc (pc' := 54) (x := x7) (v := v24) (lv' := [(7, .int v24), (0, .ref 1), (1, .ref 67), (2, .int x2), (3, .int x3), (4, .int x4), (5, .int x5), (6, .int x6)]) kc_130_51 rfl rfl ev24 rfl (xm_lt ml_130 rfl) ?_
          refine xi_goto (pc' := 11) kc_130_54 rfl ?_
          refine xw_lv (b := [(0, .ref 1), (1, .ref 67), (2, .int x2), (3, .int x3), (4, .int x4), (5, .int x5), (6, .int x6), (7, .int v24)]) (lvS_cons (lvS_cons (lvS_cons (lvS_cons (lvS_cons (lvS_cons (lvS_cons (lvS_cons (lvS_nil (show ([7, 0, 1, 2, 3, 4, 5, 6] : List Nat).Nodup by decide)) rfl) rfl) rfl) rfl) rfl) rfl) rfl) rfl) ?_
          exact i0 x2 x3 x4 x5 x6 v24 h (by omega) (by omega) (by omega) K (by omega)
    · intro x2 x3 x4 x5 x6 x7 x8 h b2 b5 b8 K hm
      have rx3 := xc_rng x3
      have rx4 := xc_rng x4
      have rx6 := xc_rng x6
      have rx7 := xc_rng x7
      refine xi_iload (pc' := 65) (x := x8) kc_130_63 rfl rfl ?_
      refine xi_bipush (pc' := 67) (v := 12) kc_130_65 rfl rfl ?_
      by_cases c1 : 12 ≤ x8.toInt
      · refine xi_cmt (pc' := 129) kc_130_67 rfl (xc_ge_t (X := x8.toInt) (Y := 12) rfl (by decide) (by omega)) ?_
        refine xi_iload (pc' := 131) (x := x5) kc_130_129 rfl rfl ?_
        refine xi_bipush (pc' := 133) (v := (-9)) kc_130_131 rfl rfl ?_
        by_cases c2 : x5.toInt = (-9)
        · refine xi_cmt (pc' := 144) kc_130_133 rfl (xc_eq_t (X := x5.toInt) (Y := (-9)) rfl (by decide) (by omega)) ?_
          refine xi_return kc_130_144 mr_130 ?_
          exact kk h K
        · refine xi_cmf (pc' := 136) kc_130_133 rfl (xc_eq_f (X := x5.toInt) (Y := (-9)) rfl (by decide) (by omega)) ?_
          refine xi_aload_n (pc' := 137) (x := 67) kc_130_136 rfl rfl ?_
          refine xi_iload (pc' := 139) (x := x5) kc_130_137 rfl rfl ?_
          refine xi_iload (pc' := 141) (x := x7) kc_130_139 rfl rfl ?_
          refine xp_67 K.1 (fun u3 u4 bu3 bu4 A5 => ?_)
          refine xi_virtual (mj := 131) (as := [.int x5, .int x7]) (st1 := []) (lv0 := [(0, .ref 67), (1, .int x5), (2, .int x7)]) kc_130_141 rfl rfl rfl rfl rfl A5 (Nat.le_of_ble_eq_true rfl) (hJ _ _ _ _ (by decide)) (xm_le ml_131 rfl) rfl ?_
          refine mt_131_1 hJ hov1 hov2 (d := d) (x1 := x5) (x2 := x7) K.1 (fun hh7 K8 => ?_)
          have K9 := xk_tr K K8 rfl
          show xw J ov (d + 2) 130 (144, [(0, .ref 1), (1, .ref 67), (2, .int x2), (3, .int x3), (4, .int x4), (5, .int x5), (6, .int x6), (7, .int x7), (8, .int x8)], [], hh7) _
          refine xi_return kc_130_144 mr_130 ?_
          exact kk hh7 K9
      · refine xi_cmf (pc' := 70) kc_130_67 rfl (xc_ge_f (X := x8.toInt) (Y := 12) rfl (by decide) (by omega)) ?_
        refine xi_iload (pc' := 72) (x := x6) kc_130_70 rfl rfl ?_
        by_cases c10 : x6.toInt ≤ 0
        · refine xi_ift (pc' := 129) kc_130_72 rfl (xc_le_t (X := x6.toInt) (Y := 0) rfl (by decide) (by omega)) ?_
          refine xi_iload (pc' := 131) (x := x5) kc_130_129 rfl rfl ?_
          refine xi_bipush (pc' := 133) (v := (-9)) kc_130_131 rfl rfl ?_
          by_cases c11 : x5.toInt = (-9)
          · refine xi_cmt (pc' := 144) kc_130_133 rfl (xc_eq_t (X := x5.toInt) (Y := (-9)) rfl (by decide) (by omega)) ?_
            refine xi_return kc_130_144 mr_130 ?_
            exact kk h K
          · refine xi_cmf (pc' := 136) kc_130_133 rfl (xc_eq_f (X := x5.toInt) (Y := (-9)) rfl (by decide) (by omega)) ?_
            refine xi_aload_n (pc' := 137) (x := 67) kc_130_136 rfl rfl ?_
            refine xi_iload (pc' := 139) (x := x5) kc_130_137 rfl rfl ?_
            refine xi_iload (pc' := 141) (x := x7) kc_130_139 rfl rfl ?_
            refine xp_67 K.1 (fun u12 u13 bu12 bu13 A14 => ?_)
            refine xi_virtual (mj := 131) (as := [.int x5, .int x7]) (st1 := []) (lv0 := [(0, .ref 67), (1, .int x5), (2, .int x7)]) kc_130_141 rfl rfl rfl rfl rfl A14 (Nat.le_of_ble_eq_true rfl) (hJ _ _ _ _ (by decide)) (xm_le ml_131 rfl) rfl ?_
            refine mt_131_1 hJ hov1 hov2 (d := d) (x1 := x5) (x2 := x7) K.1 (fun hh16 K17 => ?_)
            have K18 := xk_tr K K17 rfl
            show xw J ov (d + 2) 130 (144, [(0, .ref 1), (1, .ref 67), (2, .int x2), (3, .int x3), (4, .int x4), (5, .int x5), (6, .int x6), (7, .int x7), (8, .int x8)], [], hh16) _
            refine xi_return kc_130_144 mr_130 ?_
            exact kk hh16 K18
        · refine xi_iff (pc' := 75) kc_130_72 rfl (xc_le_f (X := x6.toInt) (Y := 0) rfl (by decide) (by omega)) ?_
          refine xi_aload_n (pc' := 76) (x := 1) kc_130_75 rfl rfl ?_
          refine xp_1 K.1 (fun u19 u20 bu19 bu20 A21 => ?_)
          refine xi_getfield (pc' := 79) (v := .ref 3) kc_130_76 rfl rfl rfl A21 rfl ?_
          refine xi_iload (pc' := 81) (x := x8) kc_130_79 rfl rfl ?_
          have A22 := xk_ex K.1 xD_3
          obtain ⟨pt23, ept23, mpt23⟩ := xR_3 (i := x8) (by omega) (by omega)
          refine xj_aaload (pc' := 82) (b := pt23) kc_130_81 rfl A22 rfl (xi_in (n := 12) (by omega) (by omega)) ept23 ?_
          obtain ⟨u24, u25, u26, u27, pt28, bu24, bu25, bu26, bu27, mpt28, A29⟩ := xg_wall K.1 mpt23
          refine xi_getfield (pc' := 85) (v := .int u24) kc_130_82 rfl rfl rfl A29 rfl ?_
          refine xi_iload_n (pc' := 86) (x := x2) kc_130_85 rfl rfl ?_
          by_cases c30 : u24.toInt = x2.toInt
          · refine xi_cmf (pc' := 89) kc_130_86 rfl (xc_ne_f (X := u24.toInt) (Y := x2.toInt) rfl rfl (by omega)) ?_
            refine xi_iload_n (pc' := 90) (x := x3) kc_130_89 rfl rfl ?_
            refine xi_aload_n (pc' := 91) (x := 1) kc_130_90 rfl rfl ?_
            refine xi_getfield (pc' := 94) (v := .ref 3) kc_130_91 rfl rfl rfl A21 rfl ?_
            refine xi_iload (pc' := 96) (x := x8) kc_130_94 rfl rfl ?_
            refine xj_aaload (pc' := 97) (b := pt23) kc_130_96 rfl A22 rfl (xi_in (n := 12) (by omega) (by omega)) ept23 ?_
            refine xi_iload (pc' := 99) (x := x4) kc_130_97 rfl rfl ?_
            refine xi_virtual (mj := 109) (as := [.int x4]) (st1 := [.int x3]) (lv0 := [(0, .ref pt23), (1, .int x4)]) kc_130_99 rfl rfl rfl rfl rfl A29 (Nat.le_of_ble_eq_true rfl) (hJ _ _ _ _ (by decide)) (xm_le ml_109 rfl) rfl ?_
            refine mt_109_0 hJ hov1 hov2 (d := d) (p0 := pt23) (x1 := x4) K.1 mpt23 (fun r31 hh32 br31 K33 => ?_)
            have K34 := xk_tr K K33 rfl
            refine xp_1 K34.1 (fun u35 u36 bu35 bu36 A37 => ?_)
            have e38 : u19 = u35 := xk_eqi (q := 5) K33 rfl A21 A37 rfl rfl
            subst e38
            show xw J ov (d + 2) 130 (102, [(0, .ref 1), (1, .ref 67), (2, .int x2), (3, .int x3), (4, .int x4), (5, .int x5), (6, .int x6), (7, .int x7), (8, .int x8)], [.int r31, .int x3], hh32) _
            refine xcps2 (α := Int32) ((x3 : Int32) * r31) (fun v39 ev39 => ?_)
            have rv39 := xc_rng v39
            refine xi_imul (pc' := 103) (v := v39) kc_130_102 rfl ev39 ?_
            refine xi_iload (pc' := 105) (x := x6) kc_130_103 rfl rfl ?_
            refine xcps2 (α := Int32) ((v39 : Int32) / x6) (fun v40 ev40 => ?_)
            have rv40 := xc_rng v40
            refine xi_idiv (pc' := 106) (v := v40) kc_130_105 rfl ev40 (xj_nz (by omega)) ?_
            refine xi_istore (pc' := 108) (lv' := [(9, .int v40), (0, .ref 1), (1, .ref 67), (2, .int x2), (3, .int x3), (4, .int x4), (5, .int x5), (6, .int x6), (7, .int x7), (8, .int x8)]) kc_130_106 rfl rfl (xm_lt ml_130 rfl) ?_
            refine xi_aload_n (pc' := 109) (x := 67) kc_130_108 rfl rfl ?_
            refine xi_iload (pc' := 111) (x := x8) kc_130_109 rfl rfl ?_
            refine xi_iload (pc' := 113) (x := v40) kc_130_111 rfl rfl ?_
            refine xp_67 K34.1 (fun u41 u42 bu41 bu42 A43 => ?_)
            refine xi_virtual (mj := 131) (as := [.int x8, .int v40]) (st1 := []) (lv0 := [(0, .ref 67), (1, .int x8), (2, .int v40)]) kc_130_113 rfl rfl rfl rfl rfl A43 (Nat.le_of_ble_eq_true rfl) (hJ _ _ _ _ (by decide)) (xm_le ml_131 rfl) rfl ?_
            refine mt_131_1 hJ hov1 hov2 (d := d) (x1 := x8) (x2 := v40) K34.1 (fun hh45 K46 => ?_)
            have K47 := xk_tr K34 K46 rfl
            refine xp_1 K47.1 (fun u48 u49 bu48 bu49 A50 => ?_)
            have e51 : u19 = u48 := xk_eqi (q := 5) K46 rfl A37 A50 rfl rfl
            subst e51
            show xw J ov (d + 2) 130 (116, [(9, .int v40), (0, .ref 1), (1, .ref 67), (2, .int x2), (3, .int x3), (4, .int x4), (5, .int x5), (6, .int x6), (7, .int x7), (8, .int x8)], [], hh45) _
            refine xi_iload (pc' := 118) (x := x7) kc_130_116 rfl rfl ?_
            refine xi_iload (pc' := 120) (x := v40) kc_130_118 rfl rfl ?_
            refine xcps2 (α := Int32) ((x7 : Int32) - v40) (fun v52 ev52 => ?_)
            have rv52 := xc_rng v52
            refine xi_isub (pc' := 121) (v := v52) kc_130_120 rfl ev52 ?_
            refine xi_istore (pc' := 123) (lv' := [(7, .int v52), (9, .int v40), (0, .ref 1), (1, .ref 67), (2, .int x2), (3, .int x3), (4, .int x4), (5, .int x5), (6, .int x6), (8, .int x8)]) kc_130_121 rfl rfl (xm_lt ml_130 rfl) ?_
            refine xcps2 (α := Int32) (x8 + 1) (fun v53 ev53 => ?_)
            have zv53 : v53.toInt = (x8.toInt + 1) := by rw [← ev53]; exact (xz_add (X := x8.toInt) (Y := 1) rfl (by decide) (by omega) (by omega)).trans (by omega)
            refine xi_iinc (pc' := 126) (x := x8) (v := v53) (lv' := [(8, .int v53), (7, .int v52), (9, .int v40), (0, .ref 1), (1, .ref 67), (2, .int x2), (3, .int x3), (4, .int x4), (5, .int x5), (6, .int x6)]) kc_130_123 rfl rfl ev53 rfl (xm_lt ml_130 rfl) ?_
            refine xi_goto (pc' := 63) kc_130_126 rfl ?_
            refine xw_lv (b := [(0, .ref 1), (1, .ref 67), (2, .int x2), (3, .int x3), (4, .int x4), (5, .int x5), (6, .int x6), (7, .int v52), (8, .int v53)]) (lvS_cons (lvS_cons (lvS_cons (lvS_cons (lvS_cons (lvS_cons (lvS_cons (lvS_cons (lvS_cons (lvS_nil (show ([8, 7, 9, 0, 1, 2, 3, 4, 5, 6] : List Nat).Nodup by decide)) rfl) rfl) rfl) rfl) rfl) rfl) rfl) rfl) rfl) ?_
            exact i1 x2 x3 x4 x5 x6 v52 v53 hh45 (by omega) (by omega) (by omega) K47 (by omega)
          · refine xi_cmt (pc' := 123) kc_130_86 rfl (xc_ne_t (X := u24.toInt) (Y := x2.toInt) rfl rfl (by omega)) ?_
            refine xcps2 (α := Int32) (x8 + 1) (fun v54 ev54 => ?_)
            have zv54 : v54.toInt = (x8.toInt + 1) := by rw [← ev54]; exact (xz_add (X := x8.toInt) (Y := 1) rfl (by decide) (by omega) (by omega)).trans (by omega)
            refine xi_iinc (pc' := 126) (x := x8) (v := v54) (lv' := [(8, .int v54), (0, .ref 1), (1, .ref 67), (2, .int x2), (3, .int x3), (4, .int x4), (5, .int x5), (6, .int x6), (7, .int x7)]) kc_130_123 rfl rfl ev54 rfl (xm_lt ml_130 rfl) ?_
            refine xi_goto (pc' := 63) kc_130_126 rfl ?_
            refine xw_lv (b := [(0, .ref 1), (1, .ref 67), (2, .int x2), (3, .int x3), (4, .int x4), (5, .int x5), (6, .int x6), (7, .int x7), (8, .int v54)]) (lvS_cons (lvS_cons (lvS_cons (lvS_cons (lvS_cons (lvS_cons (lvS_cons (lvS_cons (lvS_cons (lvS_nil (show ([8, 0, 1, 2, 3, 4, 5, 6, 7] : List Nat).Nodup by decide)) rfl) rfl) rfl) rfl) rfl) rfl) rfl) rfl) rfl) ?_
            exact i1 x2 x3 x4 x5 x6 x7 v54 h (by omega) (by omega) (by omega) K (by omega)
set_option maxHeartbeats 4000000 in
theorem mt_130_1 {J : xe_J} {ov : List (List Int32)} (hJ : ∀ d mj as h, mj ≠ xe_loff → J d mj as h = none) (hov1 : ov[1]? = some [10, 0, 0, 0, 0, 0]) (hov2 : ov[2]? = some [99, 30, 50, 50, 1, 99999]) {d : Nat} {Q : Option Value → xe_H → Prop} {h : xe_H} {x2 : Int32} {x3 : Int32} {x4 : Int32} (T : xt h) (b2 : (0 ≤ x2.toInt ∧ x2.toInt ≤ 5)) (kk : (∀ h' : xe_H, xk [(0, 9), (115, 1), (83, 0), (29, 0), (31, 0), (33, 0), (35, 0), (37, 0), (39, 0), (41, 0), (43, 0), (45, 0), (47, 0), (49, 0), (51, 0), (125, 0), (29, 2), (31, 2), (33, 2), (35, 2), (37, 2), (39, 2), (41, 2), (43, 2), (45, 2), (47, 2), (49, 2), (51, 2), (127, 0), (1, 5), (115, 23)] h h' → Q none h')) : xw J ov (d + 2) 130 (0, [(0, .ref 1), (1, .ref 67), (2, .int x2), (3, .int x3), (4, .int x4)], [], h) Q := by
  have K : xk [(0, 9), (115, 1), (83, 0), (29, 0), (31, 0), (33, 0), (35, 0), (37, 0), (39, 0), (41, 0), (43, 0), (45, 0), (47, 0), (49, 0), (51, 0), (125, 0), (29, 2), (31, 2), (33, 2), (35, 2), (37, 2), (39, 2), (41, 2), (43, 2), (45, 2), (47, 2), (49, 2), (51, 2), (127, 0), (1, 5), (115, 23)] h h := xk_re T
  have rx3 := xc_rng x3
  have rx4 := xc_rng x4
  refine xi_bipush (pc' := 2) (v := (-9)) kc_130_0 rfl rfl ?_
  refine xi_istore (pc' := 4) (lv' := [(5, .int (-9)), (0, .ref 1), (1, .ref 67), (2, .int x2), (3, .int x3), (4, .int x4)]) kc_130_2 rfl rfl (xm_lt ml_130 rfl) ?_
  refine xi_iconst (pc' := 5) (v := 0) kc_130_4 rfl rfl ?_
  refine xi_istore (pc' := 7) (lv' := [(6, .int 0), (5, .int (-9)), (0, .ref 1), (1, .ref 67), (2, .int x2), (3, .int x3), (4, .int x4)]) kc_130_5 rfl rfl (xm_lt ml_130 rfl) ?_
  refine xi_bipush (pc' := 9) (v := 11) kc_130_7 rfl rfl ?_
  refine xi_istore (pc' := 11) (lv' := [(7, .int 11), (6, .int 0), (5, .int (-9)), (0, .ref 1), (1, .ref 67), (2, .int x2), (3, .int x3), (4, .int x4)]) kc_130_9 rfl rfl (xm_lt ml_130 rfl) ?_
  have zcm9 : ((-9) : Int32).toInt = (-9) := by decide
  have zc0 : (0 : Int32).toInt = 0 := by decide
  have zc11 : (11 : Int32).toInt = 11 := by decide
  refine xw_lv (b := [(0, .ref 1), (1, .ref 67), (2, .int x2), (3, .int x3), (4, .int x4), (5, .int (-9)), (6, .int 0), (7, .int 11)]) (lvS_cons (lvS_cons (lvS_cons (lvS_cons (lvS_cons (lvS_cons (lvS_cons (lvS_cons (lvS_nil (show ([7, 6, 5, 0, 1, 2, 3, 4] : List Nat).Nodup by decide)) rfl) rfl) rfl) rfl) rfl) rfl) rfl) rfl) ?_
  exact (lp_130_1 hJ hov1 hov2 (d := d) (hb := h) (fun h9 K9 => kk h9 (xk_tr K K9 rfl)) 26).1 x2 x3 x4 (-9) 0 11 h (by omega) (by omega) (by omega) (xk_re K.1) (by omega)
set_option maxHeartbeats 4000000 in
theorem mt_128_1 {J : xe_J} {ov : List (List Int32)} (hJ : ∀ d mj as h, mj ≠ xe_loff → J d mj as h = none) (hov1 : ov[1]? = some [10, 0, 0, 0, 0, 0]) (hov2 : ov[2]? = some [99, 30, 50, 50, 1, 99999]) {d : Nat} {Q : Option Value → xe_H → Prop} {h : xe_H} {x2 : Int32} {x3 : Int32} {x4 : Int32} (T : xt h) (b2 : (0 ≤ x2.toInt ∧ x2.toInt ≤ 5)) (b3 : (0 ≤ x3.toInt ∧ x3.toInt ≤ 599)) (kk : (∀ h' : xe_H, xk [(0, 9), (115, 1), (83, 0), (29, 0), (31, 0), (33, 0), (35, 0), (37, 0), (39, 0), (41, 0), (43, 0), (45, 0), (47, 0), (49, 0), (51, 0), (125, 0), (29, 2), (31, 2), (33, 2), (35, 2), (37, 2), (39, 2), (41, 2), (43, 2), (45, 2), (47, 2), (49, 2), (51, 2), (127, 0), (1, 5), (115, 23)] h h' → Q none h')) : xw J ov (d + 3) 128 (0, [(0, .ref 1), (1, .ref 67), (2, .int x2), (3, .int x3), (4, .int x4)], [], h) Q := by
  have K : xk [(0, 9), (115, 1), (83, 0), (29, 0), (31, 0), (33, 0), (35, 0), (37, 0), (39, 0), (41, 0), (43, 0), (45, 0), (47, 0), (49, 0), (51, 0), (125, 0), (29, 2), (31, 2), (33, 2), (35, 2), (37, 2), (39, 2), (41, 2), (43, 2), (45, 2), (47, 2), (49, 2), (51, 2), (127, 0), (1, 5), (115, 23)] h h := xk_re T
  have rx4 := xc_rng x4
  refine xi_aload_n (pc' := 1) (x := 1) kc_128_0 rfl rfl ?_
  refine xp_1 K.1 (fun u1 u2 bu1 bu2 A3 => ?_)
  refine xi_getfield (pc' := 4) (v := .ref 2) kc_128_1 rfl rfl rfl A3 rfl ?_
  refine xi_iload_n (pc' := 5) (x := x2) kc_128_4 rfl rfl ?_
  have A4 := xk_ex K.1 xD_2
  obtain ⟨pt5, ept5, mpt5⟩ := xR_2 (i := x2) (by omega) (by omega)
  refine xj_aaload (pc' := 6) (b := pt5) kc_128_5 rfl A4 rfl (xi_in (n := 6) (by omega) (by omega)) ept5 ?_
  refine xi_astore (pc' := 8) (lv' := [(5, .ref pt5), (0, .ref 1), (1, .ref 67), (2, .int x2), (3, .int x3), (4, .int x4)]) kc_128_6 rfl rfl (xm_lt ml_128 rfl) ?_
  refine xi_aload_n (pc' := 9) (x := 67) kc_128_8 rfl rfl ?_
  refine xi_iload_n (pc' := 10) (x := x2) kc_128_9 rfl rfl ?_
  refine xi_aload (pc' := 12) (x := pt5) kc_128_10 rfl rfl ?_
  obtain ⟨pt6, pt7, mpt6, mpt7, A8⟩ := xg_room K.1 mpt5
  refine xi_getfield (pc' := 15) (v := .ref pt7) kc_128_12 rfl rfl rfl A8 rfl ?_
  refine xi_iload_n (pc' := 16) (x := x3) kc_128_15 rfl rfl ?_
  refine xi_bipush (pc' := 18) (v := 24) kc_128_16 rfl rfl ?_
  refine xi_static (mj := 3) (as := [.int x3, .int 24]) (st1 := [.ref pt7, .int x2, .ref 67]) (lv0 := [(0, .int x3), (1, .int 24)]) kc_128_18 rfl rfl (Nat.le_of_ble_eq_true rfl) rfl rfl (Nat.le_of_ble_eq_true rfl) (hJ _ _ _ _ (by decide)) (xm_le ml_3 rfl) rfl ?_
  refine xi_iload_n (pc' := 1) (x := x3) kc_3_0 rfl rfl ?_
  refine xi_iload_n (pc' := 2) (x := 24) kc_3_1 rfl rfl ?_
  refine xcps2 (α := Int32) (x3 - x3 / 24 * 24) (fun v9 ev9 => ?_)
  have dv9 : v9.toInt = x3.toInt % 24 := by rw [← ev9]; exact xz_reme (X := x3.toInt) (Y := 24) rfl (by decide) (by omega) (by decide)
  have bv9 : 0 ≤ v9.toInt ∧ v9.toInt ≤ 23 := by omega
  refine xi_irem (pc' := 3) (v := v9) kc_3_2 rfl ev9 (by decide) ?_
  refine xi_istore_n (pc' := 4) (lv' := [(2, .int v9), (0, .int x3), (1, .int 24)]) kc_3_3 rfl rfl (xm_lt ml_3 rfl) ?_
  refine xi_iload_n (pc' := 5) (x := x3) kc_3_4 rfl rfl ?_
  refine xi_iload_n (pc' := 6) (x := 24) kc_3_5 rfl rfl ?_
  refine xcps2 (α := Int32) ((x3 : Int32) ^^^ 24) (fun v10 ev10 => ?_)
  have rv10 := xc_rng v10
  have bv10 : 0 ≤ v10.toInt := by rw [← ev10]; exact xz_xor (by first | omega | decide) (by first | omega | decide)
  refine xi_ixor (pc' := 7) (v := v10) kc_3_6 rfl ev10 ?_
  refine xi_ift (pc' := 18) kc_3_7 rfl (xc_ge_t (X := v10.toInt) (Y := 0) rfl (by decide) (by omega)) ?_
  refine xi_iload_n (pc' := 19) (x := v9) kc_3_18 rfl rfl ?_
  refine xi_ireturn kc_3_19 mr_3 rfl ?_
  show xw J ov (d + 3) 128 (21, [(5, .ref pt5), (0, .ref 1), (1, .ref 67), (2, .int x2), (3, .int x3), (4, .int x4)], [.int v9, .ref pt7, .int x2, .ref 67], h) _
  refine xcps4 (xk_arr K.1 (xGD_room1 mpt7)) (fun y11 A11 hy11 ry11 => ?_)
  refine xcps4 (xj_get hy11 ry11 (i := v9) (by omega) (by omega)) (fun v12 ev12 bv12 dv12 => ?_)
  refine xi_iaload (pc' := 22) (v := v12) kc_128_21 rfl A11 (xk_lo mpt7 rfl) rfl (xi_in (by omega) (by rw [hy11]; omega)) ev12 ?_
  refine xp_67 K.1 (fun u13 u14 bu13 bu14 A15 => ?_)
  refine xi_virtual (mj := 127) (as := [.int x2, .int v12]) (st1 := []) (lv0 := [(0, .ref 67), (1, .int x2), (2, .int v12)]) kc_128_22 rfl rfl rfl rfl rfl A15 (Nat.le_of_ble_eq_true rfl) (hJ _ _ _ _ (by decide)) (xm_le ml_127 rfl) rfl ?_
  refine mt_127_1 hJ hov1 hov2 (d := d + 1) (x1 := x2) (x2 := v12) K.1 (fun hh17 K18 => ?_)
  have K19 := xk_tr K K18 rfl
  refine xp_1 K19.1 (fun u20 u21 bu20 bu21 A22 => ?_)
  have e23 : u1 = u20 := xk_eqi (q := 5) K18 rfl A3 A22 rfl rfl
  subst e23
  show xw J ov (d + 3) 128 (25, [(5, .ref pt5), (0, .ref 1), (1, .ref 67), (2, .int x2), (3, .int x3), (4, .int x4)], [], hh17) _
  refine xi_aload_n (pc' := 26) (x := 67) kc_128_25 rfl rfl ?_
  refine xp_67 K19.1 (fun u24 u25 bu24 bu25 A26 => ?_)
  refine xi_getfield (pc' := 29) (v := .ref 68) kc_128_26 rfl rfl rfl A26 rfl ?_
  refine xi_iload_n (pc' := 30) (x := x2) kc_128_29 rfl rfl ?_
  refine xcps4 (xk_arr K19.1 xD_68) (fun y27 A27 hy27 ry27 => ?_)
  refine xcps4 (xj_get hy27 ry27 (i := x2) (by omega) (by omega)) (fun v28 ev28 bv28 dv28 => ?_)
  refine xi_iaload (pc' := 31) (v := v28) kc_128_30 rfl A27 (by decide) rfl (xi_in (by omega) (by rw [hy27]; omega)) ev28 ?_
  refine xi_istore (pc' := 33) (lv' := [(6, .int v28), (5, .ref pt5), (0, .ref 1), (1, .ref 67), (2, .int x2), (3, .int x3), (4, .int x4)]) kc_128_31 rfl rfl (xm_lt ml_128 rfl) ?_
  refine xi_aload (pc' := 35) (x := pt5) kc_128_33 rfl rfl ?_
  obtain ⟨pt29, pt30, mpt29, mpt30, A31⟩ := xg_room K19.1 mpt5
  refine xi_getfield (pc' := 38) (v := .ref pt29) kc_128_35 rfl rfl rfl A31 rfl ?_
  refine xi_iconst (pc' := 39) (v := 0) kc_128_38 rfl rfl ?_
  refine xcps4 (xk_arr K19.1 (xGD_room0 mpt29)) (fun y32 A32 hy32 ry32 => ?_)
  refine xcps4 (xj_get hy32 ry32 (i := 0) (by decide) (by decide)) (fun v33 ev33 bv33 dv33 => ?_)
  refine xi_iaload (pc' := 40) (v := v33) kc_128_39 rfl A32 (xk_lo mpt29 rfl) rfl (xi_in (by decide) (by rw [hy32]; decide)) ev33 ?_
  refine xi_istore (pc' := 42) (lv' := [(7, .int v33), (6, .int v28), (5, .ref pt5), (0, .ref 1), (1, .ref 67), (2, .int x2), (3, .int x3), (4, .int x4)]) kc_128_40 rfl rfl (xm_lt ml_128 rfl) ?_
  refine xi_iload (pc' := 44) (x := v33) kc_128_42 rfl rfl ?_
  refine xi_iload (pc' := 46) (x := x4) kc_128_44 rfl rfl ?_
  refine xi_static (mj := 102) (as := [.int x4]) (st1 := [.int v33]) (lv0 := [(0, .int x4)]) kc_128_46 rfl rfl (Nat.le_of_ble_eq_true rfl) rfl rfl (Nat.le_of_ble_eq_true rfl) (hJ _ _ _ _ (by decide)) (xm_le ml_102 rfl) rfl ?_
  refine mt_102_0 hJ hov1 hov2 (d := d) (x0 := x4) K19.1 (fun r34 hh35 br34 K36 => ?_)
  have K37 := xk_tr K19 K36 rfl
  refine xp_1 K37.1 (fun u38 u39 bu38 bu39 A40 => ?_)
  have e41 : u1 = u38 := xk_eqi (q := 5) K36 rfl A22 A40 rfl rfl
  subst e41
  show xw J ov (d + 3) 128 (49, [(7, .int v33), (6, .int v28), (5, .ref pt5), (0, .ref 1), (1, .ref 67), (2, .int x2), (3, .int x3), (4, .int x4)], [.int r34, .int v33], hh35) _
  refine xcps2 (α := Int32) ((v33 : Int32) * r34) (fun v42 ev42 => ?_)
  have rv42 := xc_rng v42
  refine xi_imul (pc' := 50) (v := v42) kc_128_49 rfl ev42 ?_
  refine xi_iconst (pc' := 51) (v := 2) kc_128_50 rfl rfl ?_
  refine xcps2 (α := Int32) (v42 / 2) (fun v43 ev43 => ?_)
  have dv43 : 2 * v43.toInt ≤ v42.toInt + 1 ∧ v42.toInt ≤ 2 * v43.toInt + 1 := by rw [← ev43]; exact xz_div (X := v42.toInt) (Y := 2) rfl (by decide) (by decide)
  have bv43 : -1073741825 ≤ v43.toInt ∧ v43.toInt ≤ 1073741824 := by omega
  refine xi_idiv (pc' := 52) (v := v43) kc_128_51 rfl ev43 (by decide) ?_
  refine xi_istore (pc' := 54) (lv' := [(8, .int v43), (7, .int v33), (6, .int v28), (5, .ref pt5), (0, .ref 1), (1, .ref 67), (2, .int x2), (3, .int x3), (4, .int x4)]) kc_128_52 rfl rfl (xm_lt ml_128 rfl) ?_
  refine xi_iload (pc' := 56) (x := v28) kc_128_54 rfl rfl ?_
  refine xi_iload (pc' := 58) (x := v28) kc_128_56 rfl rfl ?_
  refine xi_iload (pc' := 60) (x := v43) kc_128_58 rfl rfl ?_
  refine xcps2 (α := Int32) ((v28 : Int32) - v43) (fun v44 ev44 => ?_)
  have rv44 := xc_rng v44
  refine xi_isub (pc' := 61) (v := v44) kc_128_60 rfl ev44 ?_
  refine xi_aload (pc' := 63) (x := pt5) kc_128_61 rfl rfl ?_
  obtain ⟨pt45, pt46, mpt45, mpt46, A47⟩ := xg_room K37.1 mpt5
  refine xi_virtual (mj := 129) (as := []) (st1 := [.int v44, .int v28]) (lv0 := [(0, .ref pt5)]) kc_128_63 rfl rfl rfl rfl rfl A47 (Nat.le_of_ble_eq_true rfl) (hJ _ _ _ _ (by decide)) (xm_le ml_129 rfl) rfl ?_
  refine mt_129_0 hJ hov1 hov2 (d := d + 1) (p0 := pt5) K37.1 mpt5 (fun r48 hh49 K50 => ?_)
  have br48 := xc_rng r48
  have K51 := xk_tr K37 K50 rfl
  refine xp_1 K51.1 (fun u52 u53 bu52 bu53 A54 => ?_)
  have e55 : u1 = u52 := xk_eqi (q := 5) K50 rfl A40 A54 rfl rfl
  subst e55
  show xw J ov (d + 3) 128 (66, [(8, .int v43), (7, .int v33), (6, .int v28), (5, .ref pt5), (0, .ref 1), (1, .ref 67), (2, .int x2), (3, .int x3), (4, .int x4)], [.int r48, .int v44, .int v28], hh49) _
  refine xcps2 (α := Int32) ((v44 : Int32) * r48) (fun v56 ev56 => ?_)
  have rv56 := xc_rng v56
  refine xi_imul (pc' := 67) (v := v56) kc_128_66 rfl ev56 ?_
  refine xi_bipush (pc' := 69) (v := 100) kc_128_67 rfl rfl ?_
  refine xcps2 (α := Int32) (v56 / 100) (fun v57 ev57 => ?_)
  have dv57 : 100 * v57.toInt ≤ v56.toInt + 99 ∧ v56.toInt ≤ 100 * v57.toInt + 99 := by rw [← ev57]; exact xz_div (X := v56.toInt) (Y := 100) rfl (by decide) (by decide)
  have bv57 : -21474837 ≤ v57.toInt ∧ v57.toInt ≤ 21474837 := by omega
  refine xi_idiv (pc' := 70) (v := v57) kc_128_69 rfl ev57 (by decide) ?_
  refine xcps2 (α := Int32) ((v28 : Int32) - v57) (fun v58 ev58 => ?_)
  have rv58 := xc_rng v58
  refine xi_isub (pc' := 71) (v := v58) kc_128_70 rfl ev58 ?_
  refine xi_istore (pc' := 73) (lv' := [(6, .int v58), (8, .int v43), (7, .int v33), (5, .ref pt5), (0, .ref 1), (1, .ref 67), (2, .int x2), (3, .int x3), (4, .int x4)]) kc_128_71 rfl rfl (xm_lt ml_128 rfl) ?_
  refine xi_aload (pc' := 75) (x := pt5) kc_128_73 rfl rfl ?_
  obtain ⟨pt59, pt60, mpt59, mpt60, A61⟩ := xg_room K51.1 mpt5
  refine xi_getfield (pc' := 78) (v := .ref pt59) kc_128_75 rfl rfl rfl A61 rfl ?_
  refine xi_iconst (pc' := 79) (v := 1) kc_128_78 rfl rfl ?_
  refine xcps4 (xk_arr K51.1 (xGD_room0 mpt59)) (fun y62 A62 hy62 ry62 => ?_)
  refine xcps4 (xj_get hy62 ry62 (i := 1) (by decide) (by decide)) (fun v63 ev63 bv63 dv63 => ?_)
  refine xi_iaload (pc' := 80) (v := v63) kc_128_79 rfl A62 (xk_lo mpt59 rfl) rfl (xi_in (by decide) (by rw [hy62]; decide)) ev63 ?_
  refine xi_istore (pc' := 82) (lv' := [(9, .int v63), (6, .int v58), (8, .int v43), (7, .int v33), (5, .ref pt5), (0, .ref 1), (1, .ref 67), (2, .int x2), (3, .int x3), (4, .int x4)]) kc_128_80 rfl rfl (xm_lt ml_128 rfl) ?_
  refine xi_iload (pc' := 84) (x := v33) kc_128_82 rfl rfl ?_
  refine xi_iload (pc' := 86) (x := v63) kc_128_84 rfl rfl ?_
  refine xi_static (mj := 102) (as := [.int v63]) (st1 := [.int v33]) (lv0 := [(0, .int v63)]) kc_128_86 rfl rfl (Nat.le_of_ble_eq_true rfl) rfl rfl (Nat.le_of_ble_eq_true rfl) (hJ _ _ _ _ (by decide)) (xm_le ml_102 rfl) rfl ?_
  refine mt_102_0 hJ hov1 hov2 (d := d) (x0 := v63) K51.1 (fun r64 hh65 br64 K66 => ?_)
  have K67 := xk_tr K51 K66 rfl
  refine xp_1 K67.1 (fun u68 u69 bu68 bu69 A70 => ?_)
  have e71 : u1 = u68 := xk_eqi (q := 5) K66 rfl A54 A70 rfl rfl
  subst e71
  show xw J ov (d + 3) 128 (89, [(9, .int v63), (6, .int v58), (8, .int v43), (7, .int v33), (5, .ref pt5), (0, .ref 1), (1, .ref 67), (2, .int x2), (3, .int x3), (4, .int x4)], [.int r64, .int v33], hh65) _
  refine xcps2 (α := Int32) ((v33 : Int32) * r64) (fun v72 ev72 => ?_)
  have rv72 := xc_rng v72
  refine xi_imul (pc' := 90) (v := v72) kc_128_89 rfl ev72 ?_
  refine xi_istore (pc' := 92) (lv' := [(10, .int v72), (9, .int v63), (6, .int v58), (8, .int v43), (7, .int v33), (5, .ref pt5), (0, .ref 1), (1, .ref 67), (2, .int x2), (3, .int x3), (4, .int x4)]) kc_128_90 rfl rfl (xm_lt ml_128 rfl) ?_
  refine xi_iload (pc' := 94) (x := v58) kc_128_92 rfl rfl ?_
  refine xi_iload (pc' := 96) (x := v72) kc_128_94 rfl rfl ?_
  by_cases c73 : v58.toInt ≤ v72.toInt
  · refine xi_cmt (pc' := 119) kc_128_96 rfl (xc_le_t (X := v58.toInt) (Y := v72.toInt) rfl rfl (by omega)) ?_
    refine xi_aload_n (pc' := 120) (x := 67) kc_128_119 rfl rfl ?_
    refine xp_67 K67.1 (fun u74 u75 bu74 bu75 A76 => ?_)
    refine xi_getfield (pc' := 123) (v := .ref 68) kc_128_120 rfl rfl rfl A76 rfl ?_
    refine xi_iload_n (pc' := 124) (x := x2) kc_128_123 rfl rfl ?_
    refine xi_iload (pc' := 126) (x := v58) kc_128_124 rfl rfl ?_
    refine xcps4 (xk_arr K67.1 xD_68) (fun y77 A77 hy77 ry77 => ?_)
    refine xcps4 (xj_set (v := v58) hy77 ry77 x2 (by first | omega | decide) (by first | omega | decide)) (fun y78 s78 hy78 ry78 => ?_)
    refine xi_iastore (pc' := 127) (x' := y78) kc_128_126 rfl A77 rfl (xi_in (by omega) (by rw [hy77]; omega)) s78 (fun hh78 eh78 => ?_)
    have K79 := xk_pa K67 (xk_wa rfl) xD_68 hy78 ry78 eh78
    refine xi_return kc_128_127 mr_128 ?_
    exact kk hh78 K79
  · refine xi_cmf (pc' := 99) kc_128_96 rfl (xc_le_f (X := v58.toInt) (Y := v72.toInt) rfl rfl (by omega)) ?_
    refine xi_aload_n (pc' := 100) (x := 1) kc_128_99 rfl rfl ?_
    refine xi_aload_n (pc' := 101) (x := 67) kc_128_100 rfl rfl ?_
    refine xi_iload_n (pc' := 102) (x := x2) kc_128_101 rfl rfl ?_
    refine xi_iload (pc' := 104) (x := v58) kc_128_102 rfl rfl ?_
    refine xi_iload (pc' := 106) (x := v72) kc_128_104 rfl rfl ?_
    refine xcps2 (α := Int32) ((v58 : Int32) - v72) (fun v80 ev80 => ?_)
    have rv80 := xc_rng v80
    refine xi_isub (pc' := 107) (v := v80) kc_128_106 rfl ev80 ?_
    refine xi_iload (pc' := 109) (x := v63) kc_128_107 rfl rfl ?_
    refine xi_iload (pc' := 111) (x := x4) kc_128_109 rfl rfl ?_
    refine xcps2 (α := Int32) ((v63 : Int32) - x4) (fun v81 ev81 => ?_)
    have rv81 := xc_rng v81
    refine xi_isub (pc' := 112) (v := v81) kc_128_111 rfl ev81 ?_
    refine xi_virtual (mj := 130) (as := [.ref 67, .int x2, .int v80, .int v81]) (st1 := []) (lv0 := [(0, .ref 1), (1, .ref 67), (2, .int x2), (3, .int v80), (4, .int v81)]) kc_128_112 rfl rfl rfl rfl rfl A70 (Nat.le_of_ble_eq_true rfl) (hJ _ _ _ _ (by decide)) (xm_le ml_130 rfl) rfl ?_
    refine mt_130_1 hJ hov1 hov2 (d := d) (x2 := x2) (x3 := v80) (x4 := v81) K67.1 (by first | omega | decide) (fun hh83 K84 => ?_)
    have K85 := xk_tr K67 K84 rfl
    refine xp_1 K85.1 (fun u86 u87 bu86 bu87 A88 => ?_)
    have e89 : u1 = u86 := xk_eqi (q := 5) K84 rfl A70 A88 rfl rfl
    subst e89
    show xw J ov (d + 3) 128 (115, [(10, .int v72), (9, .int v63), (6, .int v58), (8, .int v43), (7, .int v33), (5, .ref pt5), (0, .ref 1), (1, .ref 67), (2, .int x2), (3, .int x3), (4, .int x4)], [], hh83) _
    refine xi_iload (pc' := 117) (x := v72) kc_128_115 rfl rfl ?_
    refine xi_istore (pc' := 119) (lv' := [(6, .int v72), (10, .int v72), (9, .int v63), (8, .int v43), (7, .int v33), (5, .ref pt5), (0, .ref 1), (1, .ref 67), (2, .int x2), (3, .int x3), (4, .int x4)]) kc_128_117 rfl rfl (xm_lt ml_128 rfl) ?_
    refine xi_aload_n (pc' := 120) (x := 67) kc_128_119 rfl rfl ?_
    refine xp_67 K85.1 (fun u90 u91 bu90 bu91 A92 => ?_)
    refine xi_getfield (pc' := 123) (v := .ref 68) kc_128_120 rfl rfl rfl A92 rfl ?_
    refine xi_iload_n (pc' := 124) (x := x2) kc_128_123 rfl rfl ?_
    refine xi_iload (pc' := 126) (x := v72) kc_128_124 rfl rfl ?_
    refine xcps4 (xk_arr K85.1 xD_68) (fun y93 A93 hy93 ry93 => ?_)
    refine xcps4 (xj_set (v := v72) hy93 ry93 x2 (by first | omega | decide) (by first | omega | decide)) (fun y94 s94 hy94 ry94 => ?_)
    refine xi_iastore (pc' := 127) (x' := y94) kc_128_126 rfl A93 rfl (xi_in (by omega) (by rw [hy93]; omega)) s94 (fun hh94 eh94 => ?_)
    have K95 := xk_pa K85 (xk_wa rfl) xD_68 hy94 ry94 eh94
    refine xi_return kc_128_127 mr_128 ?_
    exact kk hh94 K95
set_option maxHeartbeats 4000000 in
theorem lp_132_1 {J : xe_J} {ov : List (List Int32)} (hJ : ∀ d mj as h, mj ≠ xe_loff → J d mj as h = none) (hov1 : ov[1]? = some [10, 0, 0, 0, 0, 0]) (hov2 : ov[2]? = some [99, 30, 50, 50, 1, 99999]) {d : Nat} {Q : Option Value → xe_H → Prop} {hb : xe_H} (kk : (∀ h' : xe_H, xk [(0, 9), (115, 1), (83, 0), (29, 0), (31, 0), (33, 0), (35, 0), (37, 0), (39, 0), (41, 0), (43, 0), (45, 0), (47, 0), (49, 0), (51, 0), (125, 0), (29, 2), (31, 2), (33, 2), (35, 2), (37, 2), (39, 2), (41, 2), (43, 2), (45, 2), (47, 2), (49, 2), (51, 2), (127, 0), (1, 5), (115, 23)] hb h' → Q none h')) : ∀ m : Nat, (∀ (x2 : Int32) (x3 : Int32) (h : xe_H), (0 ≤ x2.toInt ∧ x2.toInt ≤ 599) → (0 ≤ x3.toInt ∧ x3.toInt ≤ 10) → xk [(0, 9), (115, 1), (83, 0), (29, 0), (31, 0), (33, 0), (35, 0), (37, 0), (39, 0), (41, 0), (43, 0), (45, 0), (47, 0), (49, 0), (51, 0), (125, 0), (29, 2), (31, 2), (33, 2), (35, 2), (37, 2), (39, 2), (41, 2), (43, 2), (45, 2), (47, 2), (49, 2), (51, 2), (127, 0), (1, 5), (115, 23)] hb h → (-1) * x3.toInt + 10 < (m : Int) → xw J ov (d + 2) 132 (2, [(0, .ref 1), (1, .ref 67), (2, .int x2), (3, .int x3)], [], h) Q) := by
  intro m
  induction m with
  | zero =>
    intro x2 x3 h b2 b3 K hm; exfalso; omega
  | succ m ih =>
    have i0 := ih
    intro x2 x3 h b2 b3 K hm
    refine xi_iload_n (pc' := 3) (x := x3) kc_132_2 rfl rfl ?_
    refine xi_aload_n (pc' := 4) (x := 1) kc_132_3 rfl rfl ?_
    refine xp_1 K.1 (fun u1 u2 bu1 bu2 A3 => ?_)
    refine xi_getfield (pc' := 7) (v := .int u1) kc_132_4 rfl rfl rfl A3 rfl ?_
    by_cases c4 : u1.toInt ≤ x3.toInt
    · refine xi_cmt (pc' := 69) kc_132_7 rfl (xc_ge_t (X := x3.toInt) (Y := u1.toInt) rfl rfl (by omega)) ?_
      refine xi_return kc_132_69 mr_132 ?_
      exact kk h K
    · refine xi_cmf (pc' := 10) kc_132_7 rfl (xc_ge_f (X := x3.toInt) (Y := u1.toInt) rfl rfl (by omega)) ?_
      refine xi_iload_n (pc' := 11) (x := x3) kc_132_10 rfl rfl ?_
      refine xi_bipush (pc' := 13) (v := 10) kc_132_11 rfl rfl ?_
      refine xi_cmf (pc' := 16) kc_132_13 rfl (xc_ge_f (X := x3.toInt) (Y := 10) rfl (by decide) (by omega)) ?_
      refine xi_aload_n (pc' := 17) (x := 1) kc_132_16 rfl rfl ?_
      refine xi_getfield (pc' := 20) (v := .ref 4) kc_132_17 rfl rfl rfl A3 rfl ?_
      refine xi_iload_n (pc' := 21) (x := x3) kc_132_20 rfl rfl ?_
      have A5 := xk_ex K.1 xD_4
      obtain ⟨pt6, ept6, mpt6⟩ := xR_4 (i := x3) (by omega) (by omega)
      refine xj_aaload (pc' := 22) (b := pt6) kc_132_21 rfl A5 rfl (xi_in (n := 10) (by omega) (by omega)) ept6 ?_
      obtain ⟨u7, u8, u9, u10, bu7, bu8, bu9, bu10, A11⟩ := xg_cause K.1 mpt6
      refine xi_getfield (pc' := 25) (v := .int u7) kc_132_22 rfl rfl rfl A11 rfl ?_
      refine xi_iconst (pc' := 26) (v := 3) kc_132_25 rfl rfl ?_
      by_cases c12 : u7.toInt = 3
      · refine xi_cmt (pc' := 63) kc_132_26 rfl (xc_eq_t (X := u7.toInt) (Y := 3) rfl (by decide) (by omega)) ?_
        refine xcps2 (α := Int32) (x3 + 1) (fun v13 ev13 => ?_)
        have zv13 : v13.toInt = (x3.toInt + 1) := by rw [← ev13]; exact (xz_add (X := x3.toInt) (Y := 1) rfl (by decide) (by omega) (by omega)).trans (by omega)
        refine xi_iinc (pc' := 66) (x := x3) (v := v13) (lv' := [(3, .int v13), (0, .ref 1), (1, .ref 67), (2, .int x2)]) kc_132_63 rfl rfl ev13 rfl (xm_lt ml_132 rfl) ?_
        refine xi_goto (pc' := 2) kc_132_66 rfl ?_
        refine xw_lv (b := [(0, .ref 1), (1, .ref 67), (2, .int x2), (3, .int v13)]) (lvS_cons (lvS_cons (lvS_cons (lvS_cons (lvS_nil (show ([3, 0, 1, 2] : List Nat).Nodup by decide)) rfl) rfl) rfl) rfl) ?_
        exact i0 x2 v13 h (by omega) (by omega) K (by omega)
      · refine xi_cmf (pc' := 29) kc_132_26 rfl (xc_eq_f (X := u7.toInt) (Y := 3) rfl (by decide) (by omega)) ?_
        refine xi_aload_n (pc' := 30) (x := 1) kc_132_29 rfl rfl ?_
        refine xi_aload_n (pc' := 31) (x := 67) kc_132_30 rfl rfl ?_
        refine xi_iload_n (pc' := 32) (x := x3) kc_132_31 rfl rfl ?_
        refine xi_iload_n (pc' := 33) (x := x2) kc_132_32 rfl rfl ?_
        refine xi_virtual (mj := 126) (as := [.ref 67, .int x3, .int x2]) (st1 := []) (lv0 := [(0, .ref 1), (1, .ref 67), (2, .int x3), (3, .int x2)]) kc_132_33 rfl rfl rfl rfl rfl A3 (Nat.le_of_ble_eq_true rfl) (hJ _ _ _ _ (by decide)) (xm_le ml_126 rfl) rfl ?_
        refine mt_126_1 hJ hov1 hov2 (d := d) (x2 := x3) (x3 := x2) K.1 (by first | omega | decide) (by first | omega | decide) (fun r14 hh15 br14 K16 => ?_)
        have K17 := xk_tr K K16 rfl
        refine xp_1 K17.1 (fun u18 u19 bu18 bu19 A20 => ?_)
        have e21 : u1 = u18 := xk_eqi (q := 5) K16 rfl A3 A20 rfl rfl
        subst e21
        show xw J ov (d + 2) 132 (36, [(0, .ref 1), (1, .ref 67), (2, .int x2), (3, .int x3)], [.int r14], hh15) _
        by_cases c22 : r14.toInt = 0
        · refine xi_ift (pc' := 63) kc_132_36 rfl (xc_eq_t (X := r14.toInt) (Y := 0) rfl (by decide) (by omega)) ?_
          refine xcps2 (α := Int32) (x3 + 1) (fun v23 ev23 => ?_)
          have zv23 : v23.toInt = (x3.toInt + 1) := by rw [← ev23]; exact (xz_add (X := x3.toInt) (Y := 1) rfl (by decide) (by omega) (by omega)).trans (by omega)
          refine xi_iinc (pc' := 66) (x := x3) (v := v23) (lv' := [(3, .int v23), (0, .ref 1), (1, .ref 67), (2, .int x2)]) kc_132_63 rfl rfl ev23 rfl (xm_lt ml_132 rfl) ?_
          refine xi_goto (pc' := 2) kc_132_66 rfl ?_
          refine xw_lv (b := [(0, .ref 1), (1, .ref 67), (2, .int x2), (3, .int v23)]) (lvS_cons (lvS_cons (lvS_cons (lvS_cons (lvS_nil (show ([3, 0, 1, 2] : List Nat).Nodup by decide)) rfl) rfl) rfl) rfl) ?_
          exact i0 x2 v23 hh15 (by omega) (by omega) K17 (by omega)
        · refine xi_iff (pc' := 39) kc_132_36 rfl (xc_eq_f (X := r14.toInt) (Y := 0) rfl (by decide) (by omega)) ?_
          refine xi_aload_n (pc' := 40) (x := 67) kc_132_39 rfl rfl ?_
          refine xi_aload_n (pc' := 41) (x := 1) kc_132_40 rfl rfl ?_
          refine xi_getfield (pc' := 44) (v := .ref 4) kc_132_41 rfl rfl rfl A20 rfl ?_
          refine xi_iload_n (pc' := 45) (x := x3) kc_132_44 rfl rfl ?_
          have A24 := xk_ex K17.1 xD_4
          refine xj_aaload (pc' := 46) (b := pt6) kc_132_45 rfl A24 rfl (xi_in (n := 10) (by omega) (by omega)) ept6 ?_
          obtain ⟨u25, u26, u27, u28, bu25, bu26, bu27, bu28, A29⟩ := xg_cause K17.1 mpt6
          refine xi_getfield (pc' := 49) (v := .int u26) kc_132_46 rfl rfl rfl A29 rfl ?_
          refine xi_aload_n (pc' := 50) (x := 1) kc_132_49 rfl rfl ?_
          refine xi_aload_n (pc' := 51) (x := 1) kc_132_50 rfl rfl ?_
          refine xi_getfield (pc' := 54) (v := .ref 4) kc_132_51 rfl rfl rfl A20 rfl ?_
          refine xi_iload_n (pc' := 55) (x := x3) kc_132_54 rfl rfl ?_
          refine xj_aaload (pc' := 56) (b := pt6) kc_132_55 rfl A24 rfl (xi_in (n := 10) (by omega) (by omega)) ept6 ?_
          refine xi_iload_n (pc' := 57) (x := x2) kc_132_56 rfl rfl ?_
          refine xi_virtual (mj := 133) (as := [.ref pt6, .int x2]) (st1 := [.int u26, .ref 67]) (lv0 := [(0, .ref 1), (1, .ref pt6), (2, .int x2)]) kc_132_57 rfl rfl rfl rfl rfl A20 (Nat.le_of_ble_eq_true rfl) (hJ _ _ _ _ (by decide)) (xm_le ml_133 rfl) rfl ?_
          refine mt_133_0 hJ hov1 hov2 (d := d) (p1 := pt6) (x2 := x2) K17.1 mpt6 (by first | omega | decide) (fun r30 hh31 K32 => ?_)
          have br30 := xc_rng r30
          have K33 := xk_tr K17 K32 rfl
          refine xp_1 K33.1 (fun u34 u35 bu34 bu35 A36 => ?_)
          have e37 : u1 = u34 := xk_eqi (q := 5) K32 rfl A20 A36 rfl rfl
          subst e37
          show xw J ov (d + 2) 132 (60, [(0, .ref 1), (1, .ref 67), (2, .int x2), (3, .int x3)], [.int r30, .int u26, .ref 67], hh31) _
          refine xp_67 K33.1 (fun u38 u39 bu38 bu39 A40 => ?_)
          refine xi_virtual (mj := 131) (as := [.int u26, .int r30]) (st1 := []) (lv0 := [(0, .ref 67), (1, .int u26), (2, .int r30)]) kc_132_60 rfl rfl rfl rfl rfl A40 (Nat.le_of_ble_eq_true rfl) (hJ _ _ _ _ (by decide)) (xm_le ml_131 rfl) rfl ?_
          refine mt_131_1 hJ hov1 hov2 (d := d) (x1 := u26) (x2 := r30) K33.1 (fun hh42 K43 => ?_)
          have K44 := xk_tr K33 K43 rfl
          refine xp_1 K44.1 (fun u45 u46 bu45 bu46 A47 => ?_)
          have e48 : u1 = u45 := xk_eqi (q := 5) K43 rfl A36 A47 rfl rfl
          subst e48
          show xw J ov (d + 2) 132 (63, [(0, .ref 1), (1, .ref 67), (2, .int x2), (3, .int x3)], [], hh42) _
          refine xcps2 (α := Int32) (x3 + 1) (fun v49 ev49 => ?_)
          have zv49 : v49.toInt = (x3.toInt + 1) := by rw [← ev49]; exact (xz_add (X := x3.toInt) (Y := 1) rfl (by decide) (by omega) (by omega)).trans (by omega)
          refine xi_iinc (pc' := 66) (x := x3) (v := v49) (lv' := [(3, .int v49), (0, .ref 1), (1, .ref 67), (2, .int x2)]) kc_132_63 rfl rfl ev49 rfl (xm_lt ml_132 rfl) ?_
          refine xi_goto (pc' := 2) kc_132_66 rfl ?_
          refine xw_lv (b := [(0, .ref 1), (1, .ref 67), (2, .int x2), (3, .int v49)]) (lvS_cons (lvS_cons (lvS_cons (lvS_cons (lvS_nil (show ([3, 0, 1, 2] : List Nat).Nodup by decide)) rfl) rfl) rfl) rfl) ?_
          exact i0 x2 v49 hh42 (by omega) (by omega) K44 (by omega)
set_option maxHeartbeats 4000000 in
theorem mt_132_1 {J : xe_J} {ov : List (List Int32)} (hJ : ∀ d mj as h, mj ≠ xe_loff → J d mj as h = none) (hov1 : ov[1]? = some [10, 0, 0, 0, 0, 0]) (hov2 : ov[2]? = some [99, 30, 50, 50, 1, 99999]) {d : Nat} {Q : Option Value → xe_H → Prop} {h : xe_H} {x2 : Int32} (T : xt h) (b2 : (0 ≤ x2.toInt ∧ x2.toInt ≤ 599)) (kk : (∀ h' : xe_H, xk [(0, 9), (115, 1), (83, 0), (29, 0), (31, 0), (33, 0), (35, 0), (37, 0), (39, 0), (41, 0), (43, 0), (45, 0), (47, 0), (49, 0), (51, 0), (125, 0), (29, 2), (31, 2), (33, 2), (35, 2), (37, 2), (39, 2), (41, 2), (43, 2), (45, 2), (47, 2), (49, 2), (51, 2), (127, 0), (1, 5), (115, 23)] h h' → Q none h')) : xw J ov (d + 2) 132 (0, [(0, .ref 1), (1, .ref 67), (2, .int x2)], [], h) Q := by
  have K : xk [(0, 9), (115, 1), (83, 0), (29, 0), (31, 0), (33, 0), (35, 0), (37, 0), (39, 0), (41, 0), (43, 0), (45, 0), (47, 0), (49, 0), (51, 0), (125, 0), (29, 2), (31, 2), (33, 2), (35, 2), (37, 2), (39, 2), (41, 2), (43, 2), (45, 2), (47, 2), (49, 2), (51, 2), (127, 0), (1, 5), (115, 23)] h h := xk_re T
  refine xi_iconst (pc' := 1) (v := 0) kc_132_0 rfl rfl ?_
  refine xi_istore_n (pc' := 2) (lv' := [(3, .int 0), (0, .ref 1), (1, .ref 67), (2, .int x2)]) kc_132_1 rfl rfl (xm_lt ml_132 rfl) ?_
  have zc0 : (0 : Int32).toInt = 0 := by decide
  refine xw_lv (b := [(0, .ref 1), (1, .ref 67), (2, .int x2), (3, .int 0)]) (lvS_cons (lvS_cons (lvS_cons (lvS_cons (lvS_nil (show ([3, 0, 1, 2] : List Nat).Nodup by decide)) rfl) rfl) rfl) rfl) ?_
  exact (lp_132_1 hJ hov1 hov2 (d := d) (hb := h) (fun h9 K9 => kk h9 (xk_tr K K9 rfl)) 11) x2 0 h (by omega) (by omega) (xk_re K.1) (by omega)
set_option maxHeartbeats 4000000 in
theorem lp_134_1 {J : xe_J} {ov : List (List Int32)} (hJ : ∀ d mj as h, mj ≠ xe_loff → J d mj as h = none) (hov1 : ov[1]? = some [10, 0, 0, 0, 0, 0]) (hov2 : ov[2]? = some [99, 30, 50, 50, 1, 99999]) {d : Nat} {Q : Option Value → xe_H → Prop} {hb : xe_H} (kk : (∀ h' : xe_H, xk [(0, 9), (115, 1), (83, 0), (29, 0), (31, 0), (33, 0), (35, 0), (37, 0), (39, 0), (41, 0), (43, 0), (45, 0), (47, 0), (49, 0), (51, 0), (125, 0), (29, 2), (31, 2), (33, 2), (35, 2), (37, 2), (39, 2), (41, 2), (43, 2), (45, 2), (47, 2), (49, 2), (51, 2), (127, 0), (1, 5), (115, 23)] hb h' → Q none h')) : ∀ m : Nat, (∀ (x2 : Int32) (h : xe_H), (0 ≤ x2.toInt ∧ x2.toInt ≤ 12) → xk [(0, 9), (115, 1), (83, 0), (29, 0), (31, 0), (33, 0), (35, 0), (37, 0), (39, 0), (41, 0), (43, 0), (45, 0), (47, 0), (49, 0), (51, 0), (125, 0), (29, 2), (31, 2), (33, 2), (35, 2), (37, 2), (39, 2), (41, 2), (43, 2), (45, 2), (47, 2), (49, 2), (51, 2), (127, 0), (1, 5), (115, 23)] hb h → (-1) * x2.toInt + 12 < (m : Int) → xw J ov (d + 1) 134 (2, [(0, .ref 1), (1, .ref 67), (2, .int x2)], [], h) Q) := by
  intro m
  induction m with
  | zero =>
    intro x2 h b2 K hm; exfalso; omega
  | succ m ih =>
    have i0 := ih
    intro x2 h b2 K hm
    refine xi_iload_n (pc' := 3) (x := x2) kc_134_2 rfl rfl ?_
    refine xi_bipush (pc' := 5) (v := 12) kc_134_3 rfl rfl ?_
    by_cases c1 : 12 ≤ x2.toInt
    · refine xi_cmt (pc' := 45) kc_134_5 rfl (xc_ge_t (X := x2.toInt) (Y := 12) rfl (by decide) (by omega)) ?_
      refine xi_return kc_134_45 mr_134 ?_
      exact kk h K
    · refine xi_cmf (pc' := 8) kc_134_5 rfl (xc_ge_f (X := x2.toInt) (Y := 12) rfl (by decide) (by omega)) ?_
      refine xi_aload_n (pc' := 9) (x := 67) kc_134_8 rfl rfl ?_
      refine xp_67 K.1 (fun u2 u3 bu2 bu3 A4 => ?_)
      refine xi_getfield (pc' := 12) (v := .ref 69) kc_134_9 rfl rfl rfl A4 rfl ?_
      refine xi_iload_n (pc' := 13) (x := x2) kc_134_12 rfl rfl ?_
      refine xcps4 (xk_arr K.1 xD_69) (fun y5 A5 hy5 ry5 => ?_)
      refine xcps4 (xj_get hy5 ry5 (i := x2) (by omega) (by omega)) (fun v6 ev6 bv6 dv6 => ?_)
      refine xi_iaload (pc' := 14) (v := v6) kc_134_13 rfl A5 (by decide) rfl (xi_in (by omega) (by rw [hy5]; omega)) ev6 ?_
      refine xi_istore_n (pc' := 15) (lv' := [(3, .int v6), (0, .ref 1), (1, .ref 67), (2, .int x2)]) kc_134_14 rfl rfl (xm_lt ml_134 rfl) ?_
      refine xi_iload_n (pc' := 16) (x := v6) kc_134_15 rfl rfl ?_
      by_cases c7 : v6.toInt ≤ 0
      · refine xi_ift (pc' := 39) kc_134_16 rfl (xc_le_t (X := v6.toInt) (Y := 0) rfl (by decide) (by omega)) ?_
        refine xcps2 (α := Int32) (x2 + 1) (fun v8 ev8 => ?_)
        have zv8 : v8.toInt = (x2.toInt + 1) := by rw [← ev8]; exact (xz_add (X := x2.toInt) (Y := 1) rfl (by decide) (by omega) (by omega)).trans (by omega)
        refine xi_iinc (pc' := 42) (x := x2) (v := v8) (lv' := [(2, .int v8), (3, .int v6), (0, .ref 1), (1, .ref 67)]) kc_134_39 rfl rfl ev8 rfl (xm_lt ml_134 rfl) ?_
        refine xi_goto (pc' := 2) kc_134_42 rfl ?_
        refine xw_lv (b := [(0, .ref 1), (1, .ref 67), (2, .int v8)]) (lvS_cons (lvS_cons (lvS_cons (lvS_nil (show ([2, 3, 0, 1] : List Nat).Nodup by decide)) rfl) rfl) rfl) ?_
        exact i0 v8 h (by omega) K (by omega)
      · refine xi_iff (pc' := 19) kc_134_16 rfl (xc_le_f (X := v6.toInt) (Y := 0) rfl (by decide) (by omega)) ?_
        refine xi_aload_n (pc' := 20) (x := 67) kc_134_19 rfl rfl ?_
        refine xi_getfield (pc' := 23) (v := .ref 69) kc_134_20 rfl rfl rfl A4 rfl ?_
        refine xi_iload_n (pc' := 24) (x := x2) kc_134_23 rfl rfl ?_
        refine xi_iload_n (pc' := 25) (x := v6) kc_134_24 rfl rfl ?_
        refine xi_iload_n (pc' := 26) (x := v6) kc_134_25 rfl rfl ?_
        refine xi_aload_n (pc' := 27) (x := 1) kc_134_26 rfl rfl ?_
        refine xp_1 K.1 (fun u9 u10 bu9 bu10 A11 => ?_)
        refine xi_getfield (pc' := 30) (v := .int u10) kc_134_27 rfl rfl rfl A11 rfl ?_
        refine xcps2 (α := Int32) ((v6 : Int32) * u10) (fun v12 ev12 => ?_)
        have rv12 := xc_rng v12
        refine xi_imul (pc' := 31) (v := v12) kc_134_30 rfl ev12 ?_
        refine xi_bipush (pc' := 33) (v := 99) kc_134_31 rfl rfl ?_
        refine xcps2 (α := Int32) ((v12 : Int32) + 99) (fun v13 ev13 => ?_)
        have rv13 := xc_rng v13
        refine xi_iadd (pc' := 34) (v := v13) kc_134_33 rfl ev13 ?_
        refine xi_bipush (pc' := 36) (v := 100) kc_134_34 rfl rfl ?_
        refine xcps2 (α := Int32) (v13 / 100) (fun v14 ev14 => ?_)
        have dv14 : 100 * v14.toInt ≤ v13.toInt + 99 ∧ v13.toInt ≤ 100 * v14.toInt + 99 := by rw [← ev14]; exact xz_div (X := v13.toInt) (Y := 100) rfl (by decide) (by decide)
        have bv14 : -21474837 ≤ v14.toInt ∧ v14.toInt ≤ 21474837 := by omega
        refine xi_idiv (pc' := 37) (v := v14) kc_134_36 rfl ev14 (by decide) ?_
        refine xcps2 (α := Int32) ((v6 : Int32) - v14) (fun v15 ev15 => ?_)
        have rv15 := xc_rng v15
        refine xi_isub (pc' := 38) (v := v15) kc_134_37 rfl ev15 ?_
        refine xcps4 (xj_set (v := v15) hy5 ry5 x2 (by first | omega | decide) (by first | omega | decide)) (fun y16 s16 hy16 ry16 => ?_)
        refine xi_iastore (pc' := 39) (x' := y16) kc_134_38 rfl A5 rfl (xi_in (by omega) (by rw [hy5]; omega)) s16 (fun hh16 eh16 => ?_)
        have K17 := xk_pa K (xk_wa rfl) xD_69 hy16 ry16 eh16
        refine xcps2 (α := Int32) (x2 + 1) (fun v18 ev18 => ?_)
        have zv18 : v18.toInt = (x2.toInt + 1) := by rw [← ev18]; exact (xz_add (X := x2.toInt) (Y := 1) rfl (by decide) (by omega) (by omega)).trans (by omega)
        refine xi_iinc (pc' := 42) (x := x2) (v := v18) (lv' := [(2, .int v18), (3, .int v6), (0, .ref 1), (1, .ref 67)]) kc_134_39 rfl rfl ev18 rfl (xm_lt ml_134 rfl) ?_
        refine xi_goto (pc' := 2) kc_134_42 rfl ?_
        refine xw_lv (b := [(0, .ref 1), (1, .ref 67), (2, .int v18)]) (lvS_cons (lvS_cons (lvS_cons (lvS_nil (show ([2, 3, 0, 1] : List Nat).Nodup by decide)) rfl) rfl) rfl) ?_
        exact i0 v18 hh16 (by omega) K17 (by omega)
set_option maxHeartbeats 4000000 in
theorem mt_134_1 {J : xe_J} {ov : List (List Int32)} (hJ : ∀ d mj as h, mj ≠ xe_loff → J d mj as h = none) (hov1 : ov[1]? = some [10, 0, 0, 0, 0, 0]) (hov2 : ov[2]? = some [99, 30, 50, 50, 1, 99999]) {d : Nat} {Q : Option Value → xe_H → Prop} {h : xe_H} (T : xt h) (kk : (∀ h' : xe_H, xk [(0, 9), (115, 1), (83, 0), (29, 0), (31, 0), (33, 0), (35, 0), (37, 0), (39, 0), (41, 0), (43, 0), (45, 0), (47, 0), (49, 0), (51, 0), (125, 0), (29, 2), (31, 2), (33, 2), (35, 2), (37, 2), (39, 2), (41, 2), (43, 2), (45, 2), (47, 2), (49, 2), (51, 2), (127, 0), (1, 5), (115, 23)] h h' → Q none h')) : xw J ov (d + 1) 134 (0, [(0, .ref 1), (1, .ref 67)], [], h) Q := by
  have K : xk [(0, 9), (115, 1), (83, 0), (29, 0), (31, 0), (33, 0), (35, 0), (37, 0), (39, 0), (41, 0), (43, 0), (45, 0), (47, 0), (49, 0), (51, 0), (125, 0), (29, 2), (31, 2), (33, 2), (35, 2), (37, 2), (39, 2), (41, 2), (43, 2), (45, 2), (47, 2), (49, 2), (51, 2), (127, 0), (1, 5), (115, 23)] h h := xk_re T
  refine xi_iconst (pc' := 1) (v := 0) kc_134_0 rfl rfl ?_
  refine xi_istore_n (pc' := 2) (lv' := [(2, .int 0), (0, .ref 1), (1, .ref 67)]) kc_134_1 rfl rfl (xm_lt ml_134 rfl) ?_
  have zc0 : (0 : Int32).toInt = 0 := by decide
  refine xw_lv (b := [(0, .ref 1), (1, .ref 67), (2, .int 0)]) (lvS_cons (lvS_cons (lvS_cons (lvS_nil (show ([2, 0, 1] : List Nat).Nodup by decide)) rfl) rfl) rfl) ?_
  exact (lp_134_1 hJ hov1 hov2 (d := d) (hb := h) (fun h9 K9 => kk h9 (xk_tr K K9 rfl)) 13) 0 h (by omega) (xk_re K.1) (by omega)
set_option maxHeartbeats 4000000 in
theorem lp_124_1 {J : xe_J} {ov : List (List Int32)} (hJ : ∀ d mj as h, mj ≠ xe_loff → J d mj as h = none) (hov1 : ov[1]? = some [10, 0, 0, 0, 0, 0]) (hov2 : ov[2]? = some [99, 30, 50, 50, 1, 99999]) {d : Nat} {Q : Option Value → xe_H → Prop} {hb : xe_H} (kk : (∀ h' : xe_H, xk [(0, 9), (115, 1), (83, 0), (29, 0), (31, 0), (33, 0), (35, 0), (37, 0), (39, 0), (41, 0), (43, 0), (45, 0), (47, 0), (49, 0), (51, 0), (125, 0), (29, 2), (31, 2), (33, 2), (35, 2), (37, 2), (39, 2), (41, 2), (43, 2), (45, 2), (47, 2), (49, 2), (51, 2), (127, 0), (1, 5), (115, 23)] hb h' → Q none h')) : ∀ m : Nat, (∀ (x2 : Int32) (x3 : Int32) (x4 : Int32) (h : xe_H), (0 ≤ x2.toInt ∧ x2.toInt ≤ 599) → (0 ≤ x4.toInt ∧ x4.toInt ≤ 6) → xk [(0, 9), (115, 1), (83, 0), (29, 0), (31, 0), (33, 0), (35, 0), (37, 0), (39, 0), (41, 0), (43, 0), (45, 0), (47, 0), (49, 0), (51, 0), (125, 0), (29, 2), (31, 2), (33, 2), (35, 2), (37, 2), (39, 2), (41, 2), (43, 2), (45, 2), (47, 2), (49, 2), (51, 2), (127, 0), (1, 5), (115, 23)] hb h → (-1) * x4.toInt + 6 < (m : Int) → xw J ov (d + 4) 124 (18, [(0, .ref 1), (1, .ref 67), (2, .int x2), (3, .int x3), (4, .int x4)], [], h) Q) := by
  intro m
  induction m with
  | zero =>
    intro x2 x3 x4 h b2 b4 K hm; have rx3 := xc_rng x3; exfalso; omega
  | succ m ih =>
    have i0 := ih
    intro x2 x3 x4 h b2 b4 K hm
    have rx3 := xc_rng x3
    refine xi_iload (pc' := 20) (x := x4) kc_124_18 rfl rfl ?_
    refine xi_bipush (pc' := 22) (v := 6) kc_124_20 rfl rfl ?_
    by_cases c1 : 6 ≤ x4.toInt
    · refine xi_cmt (pc' := 52) kc_124_22 rfl (xc_ge_t (X := x4.toInt) (Y := 6) rfl (by decide) (by omega)) ?_
      refine xi_aload_n (pc' := 53) (x := 1) kc_124_52 rfl rfl ?_
      refine xi_aload_n (pc' := 54) (x := 67) kc_124_53 rfl rfl ?_
      refine xi_iload_n (pc' := 55) (x := x2) kc_124_54 rfl rfl ?_
      refine xp_1 K.1 (fun u2 u3 bu2 bu3 A4 => ?_)
      refine xi_virtual (mj := 132) (as := [.ref 67, .int x2]) (st1 := []) (lv0 := [(0, .ref 1), (1, .ref 67), (2, .int x2)]) kc_124_55 rfl rfl rfl rfl rfl A4 (Nat.le_of_ble_eq_true rfl) (hJ _ _ _ _ (by decide)) (xm_le ml_132 rfl) rfl ?_
      refine mt_132_1 hJ hov1 hov2 (d := d + 1) (x2 := x2) K.1 (by first | omega | decide) (fun hh6 K7 => ?_)
      have K8 := xk_tr K K7 rfl
      refine xp_1 K8.1 (fun u9 u10 bu9 bu10 A11 => ?_)
      have e12 : u2 = u9 := xk_eqi (q := 5) K7 rfl A4 A11 rfl rfl
      subst e12
      show xw J ov (d + 4) 124 (58, [(0, .ref 1), (1, .ref 67), (2, .int x2), (3, .int x3), (4, .int x4)], [], hh6) _
      refine xi_aload_n (pc' := 59) (x := 1) kc_124_58 rfl rfl ?_
      refine xi_aload_n (pc' := 60) (x := 67) kc_124_59 rfl rfl ?_
      refine xi_virtual (mj := 134) (as := [.ref 67]) (st1 := []) (lv0 := [(0, .ref 1), (1, .ref 67)]) kc_124_60 rfl rfl rfl rfl rfl A11 (Nat.le_of_ble_eq_true rfl) (hJ _ _ _ _ (by decide)) (xm_le ml_134 rfl) rfl ?_
      refine mt_134_1 hJ hov1 hov2 (d := d + 2)  K8.1 (fun hh14 K15 => ?_)
      have K16 := xk_tr K8 K15 rfl
      refine xp_1 K16.1 (fun u17 u18 bu17 bu18 A19 => ?_)
      have e20 : u2 = u17 := xk_eqi (q := 5) K15 rfl A11 A19 rfl rfl
      subst e20
      show xw J ov (d + 4) 124 (63, [(0, .ref 1), (1, .ref 67), (2, .int x2), (3, .int x3), (4, .int x4)], [], hh14) _
      refine xi_return kc_124_63 mr_124 ?_
      exact kk hh14 K16
    · refine xi_cmf (pc' := 25) kc_124_22 rfl (xc_ge_f (X := x4.toInt) (Y := 6) rfl (by decide) (by omega)) ?_
      refine xi_aload_n (pc' := 26) (x := 67) kc_124_25 rfl rfl ?_
      refine xp_67 K.1 (fun u21 u22 bu21 bu22 A23 => ?_)
      refine xi_getfield (pc' := 29) (v := .int u22) kc_124_26 rfl rfl rfl A23 rfl ?_
      refine xi_iload (pc' := 31) (x := x4) kc_124_29 rfl rfl ?_
      refine xcps2 (α := Int32) ((u22 : Int32) >>> (x4 &&& 31)) (fun v24 ev24 => ?_)
      have rv24 := xc_rng v24
      refine xi_ishr (pc' := 32) (v := v24) kc_124_31 rfl ev24 ?_
      refine xi_iconst (pc' := 33) (v := 1) kc_124_32 rfl rfl ?_
      refine xcps2 (α := Int32) ((v24 : Int32) &&& 1) (fun v25 ev25 => ?_)
      have rv25 := xc_rng v25
      refine xi_iand (pc' := 34) (v := v25) kc_124_33 rfl ev25 ?_
      by_cases c26 : v25.toInt = 0
      · refine xi_ift (pc' := 46) kc_124_34 rfl (xc_eq_t (X := v25.toInt) (Y := 0) rfl (by decide) (by omega)) ?_
        refine xcps2 (α := Int32) (x4 + 1) (fun v27 ev27 => ?_)
        have zv27 : v27.toInt = (x4.toInt + 1) := by rw [← ev27]; exact (xz_add (X := x4.toInt) (Y := 1) rfl (by decide) (by omega) (by omega)).trans (by omega)
        refine xi_iinc (pc' := 49) (x := x4) (v := v27) (lv' := [(4, .int v27), (0, .ref 1), (1, .ref 67), (2, .int x2), (3, .int x3)]) kc_124_46 rfl rfl ev27 rfl (xm_lt ml_124 rfl) ?_
        refine xi_goto (pc' := 18) kc_124_49 rfl ?_
        refine xw_lv (b := [(0, .ref 1), (1, .ref 67), (2, .int x2), (3, .int x3), (4, .int v27)]) (lvS_cons (lvS_cons (lvS_cons (lvS_cons (lvS_cons (lvS_nil (show ([4, 0, 1, 2, 3] : List Nat).Nodup by decide)) rfl) rfl) rfl) rfl) rfl) ?_
        exact i0 x2 x3 v27 h (by omega) (by omega) K (by omega)
      · refine xi_iff (pc' := 37) kc_124_34 rfl (xc_eq_f (X := v25.toInt) (Y := 0) rfl (by decide) (by omega)) ?_
        refine xi_aload_n (pc' := 38) (x := 1) kc_124_37 rfl rfl ?_
        refine xi_aload_n (pc' := 39) (x := 67) kc_124_38 rfl rfl ?_
        refine xi_iload (pc' := 41) (x := x4) kc_124_39 rfl rfl ?_
        refine xi_iload_n (pc' := 42) (x := x2) kc_124_41 rfl rfl ?_
        refine xi_iload_n (pc' := 43) (x := x3) kc_124_42 rfl rfl ?_
        refine xp_1 K.1 (fun u28 u29 bu28 bu29 A30 => ?_)
        refine xi_virtual (mj := 128) (as := [.ref 67, .int x4, .int x2, .int x3]) (st1 := []) (lv0 := [(0, .ref 1), (1, .ref 67), (2, .int x4), (3, .int x2), (4, .int x3)]) kc_124_43 rfl rfl rfl rfl rfl A30 (Nat.le_of_ble_eq_true rfl) (hJ _ _ _ _ (by decide)) (xm_le ml_128 rfl) rfl ?_
        refine mt_128_1 hJ hov1 hov2 (d := d) (x2 := x4) (x3 := x2) (x4 := x3) K.1 (by first | omega | decide) (by first | omega | decide) (fun hh32 K33 => ?_)
        have K34 := xk_tr K K33 rfl
        refine xp_1 K34.1 (fun u35 u36 bu35 bu36 A37 => ?_)
        have e38 : u28 = u35 := xk_eqi (q := 5) K33 rfl A30 A37 rfl rfl
        subst e38
        show xw J ov (d + 4) 124 (46, [(0, .ref 1), (1, .ref 67), (2, .int x2), (3, .int x3), (4, .int x4)], [], hh32) _
        refine xcps2 (α := Int32) (x4 + 1) (fun v39 ev39 => ?_)
        have zv39 : v39.toInt = (x4.toInt + 1) := by rw [← ev39]; exact (xz_add (X := x4.toInt) (Y := 1) rfl (by decide) (by omega) (by omega)).trans (by omega)
        refine xi_iinc (pc' := 49) (x := x4) (v := v39) (lv' := [(4, .int v39), (0, .ref 1), (1, .ref 67), (2, .int x2), (3, .int x3)]) kc_124_46 rfl rfl ev39 rfl (xm_lt ml_124 rfl) ?_
        refine xi_goto (pc' := 18) kc_124_49 rfl ?_
        refine xw_lv (b := [(0, .ref 1), (1, .ref 67), (2, .int x2), (3, .int x3), (4, .int v39)]) (lvS_cons (lvS_cons (lvS_cons (lvS_cons (lvS_cons (lvS_nil (show ([4, 0, 1, 2, 3] : List Nat).Nodup by decide)) rfl) rfl) rfl) rfl) rfl) ?_
        exact i0 x2 x3 v39 hh32 (by omega) (by omega) K34 (by omega)
set_option maxHeartbeats 4000000 in
theorem mt_124_1 {J : xe_J} {ov : List (List Int32)} (hJ : ∀ d mj as h, mj ≠ xe_loff → J d mj as h = none) (hov1 : ov[1]? = some [10, 0, 0, 0, 0, 0]) (hov2 : ov[2]? = some [99, 30, 50, 50, 1, 99999]) {d : Nat} {Q : Option Value → xe_H → Prop} {h : xe_H} {x2 : Int32} (T : xt h) (b2 : (0 ≤ x2.toInt ∧ x2.toInt ≤ 599)) (kk : (∀ h' : xe_H, xk [(0, 9), (115, 1), (83, 0), (29, 0), (31, 0), (33, 0), (35, 0), (37, 0), (39, 0), (41, 0), (43, 0), (45, 0), (47, 0), (49, 0), (51, 0), (125, 0), (29, 2), (31, 2), (33, 2), (35, 2), (37, 2), (39, 2), (41, 2), (43, 2), (45, 2), (47, 2), (49, 2), (51, 2), (127, 0), (1, 5), (115, 23)] h h' → Q none h')) : xw J ov (d + 4) 124 (0, [(0, .ref 1), (1, .ref 67), (2, .int x2)], [], h) Q := by
  have K : xk [(0, 9), (115, 1), (83, 0), (29, 0), (31, 0), (33, 0), (35, 0), (37, 0), (39, 0), (41, 0), (43, 0), (45, 0), (47, 0), (49, 0), (51, 0), (125, 0), (29, 2), (31, 2), (33, 2), (35, 2), (37, 2), (39, 2), (41, 2), (43, 2), (45, 2), (47, 2), (49, 2), (51, 2), (127, 0), (1, 5), (115, 23)] h h := xk_re T
  refine xi_aload_n (pc' := 1) (x := 1) kc_124_0 rfl rfl ?_
  refine xp_1 K.1 (fun u1 u2 bu1 bu2 A3 => ?_)
  refine xi_getfield (pc' := 4) (v := .ref 5) kc_124_1 rfl rfl rfl A3 rfl ?_
  refine xi_iload_n (pc' := 5) (x := x2) kc_124_4 rfl rfl ?_
  refine xp_5 K.1 (fun u4 bu4 A5 => ?_)
  refine xi_virtual (mj := 99) (as := [.int x2]) (st1 := []) (lv0 := [(0, .ref 5), (1, .int x2)]) kc_124_5 rfl rfl rfl rfl rfl A5 (Nat.le_of_ble_eq_true rfl) (hJ _ _ _ _ (by decide)) (xm_le ml_99 rfl) rfl ?_
  refine xi_iload_n (pc' := 1) (x := x2) kc_99_0 rfl rfl ?_
  refine xi_iff (pc' := 4) kc_99_1 rfl (xc_lt_f (X := x2.toInt) (Y := 0) rfl (by decide) (by omega)) ?_
  refine xi_iload_n (pc' := 5) (x := x2) kc_99_4 rfl rfl ?_
  refine xi_aload_n (pc' := 6) (x := 5) kc_99_5 rfl rfl ?_
  refine xi_getfield (pc' := 9) (v := .ref 7) kc_99_6 rfl rfl rfl A5 rfl ?_
  refine xcps4 (xk_arr K.1 xD_7) (fun y6 A6 hy6 ry6 => ?_)
  refine xi_arraylength (pc' := 10) (n := 601) (v := 601) kc_99_9 rfl (xl_lenI (by decide) (by decide) A6 hy6) rfl ?_
  refine xi_cmt (pc' := 20) kc_99_10 rfl (xc_lt_t (X := x2.toInt) (Y := 601) rfl (by decide) (by omega)) ?_
  refine xi_aload_n (pc' := 21) (x := 5) kc_99_20 rfl rfl ?_
  refine xi_getfield (pc' := 24) (v := .ref 7) kc_99_21 rfl rfl rfl A5 rfl ?_
  refine xi_iload_n (pc' := 25) (x := x2) kc_99_24 rfl rfl ?_
  refine xcps4 (xj_get hy6 ry6 (i := x2) (by omega) (by omega)) (fun v7 ev7 bv7 dv7 => ?_)
  refine xi_iaload (pc' := 26) (v := v7) kc_99_25 rfl A6 (by decide) rfl (xi_in (by omega) (by rw [hy6]; omega)) ev7 ?_
  refine xi_ireturn kc_99_26 mr_99 rfl ?_
  show xw J ov (d + 4) 124 (8, [(0, .ref 1), (1, .ref 67), (2, .int x2)], [.int v7], h) _
  refine xi_istore_n (pc' := 9) (lv' := [(3, .int v7), (0, .ref 1), (1, .ref 67), (2, .int x2)]) kc_124_8 rfl rfl (xm_lt ml_124 rfl) ?_
  refine xi_aload_n (pc' := 10) (x := 1) kc_124_9 rfl rfl ?_
  refine xi_aload_n (pc' := 11) (x := 67) kc_124_10 rfl rfl ?_
  refine xi_iload_n (pc' := 12) (x := x2) kc_124_11 rfl rfl ?_
  refine xi_virtual (mj := 125) (as := [.ref 67, .int x2]) (st1 := []) (lv0 := [(0, .ref 1), (1, .ref 67), (2, .int x2)]) kc_124_12 rfl rfl rfl rfl rfl A3 (Nat.le_of_ble_eq_true rfl) (hJ _ _ _ _ (by decide)) (xm_le ml_125 rfl) rfl ?_
  refine mt_125_1 hJ hov1 hov2 (d := d + 1) (x2 := x2) K.1 (by first | omega | decide) (fun hh9 K10 => ?_)
  have K11 := xk_tr K K10 rfl
  refine xp_1 K11.1 (fun u12 u13 bu12 bu13 A14 => ?_)
  have e15 : u1 = u12 := xk_eqi (q := 5) K10 rfl A3 A14 rfl rfl
  subst e15
  show xw J ov (d + 4) 124 (15, [(3, .int v7), (0, .ref 1), (1, .ref 67), (2, .int x2)], [], hh9) _
  refine xi_iconst (pc' := 16) (v := 0) kc_124_15 rfl rfl ?_
  refine xi_istore (pc' := 18) (lv' := [(4, .int 0), (3, .int v7), (0, .ref 1), (1, .ref 67), (2, .int x2)]) kc_124_16 rfl rfl (xm_lt ml_124 rfl) ?_
  have zc0 : (0 : Int32).toInt = 0 := by decide
  refine xw_lv (b := [(0, .ref 1), (1, .ref 67), (2, .int x2), (3, .int v7), (4, .int 0)]) (lvS_cons (lvS_cons (lvS_cons (lvS_cons (lvS_cons (lvS_nil (show ([4, 3, 0, 1, 2] : List Nat).Nodup by decide)) rfl) rfl) rfl) rfl) rfl) ?_
  exact (lp_124_1 hJ hov1 hov2 (d := d) (hb := hh9) (fun h9 K9 => kk h9 (xk_tr K11 K9 rfl)) 7) x2 v7 0 hh9 (by omega) (by omega) (xk_re K11.1) (by omega)
set_option maxHeartbeats 4000000 in
theorem lp_142_0 {J : xe_J} {ov : List (List Int32)} (hJ : ∀ d mj as h, mj ≠ xe_loff → J d mj as h = none) (hov1 : ov[1]? = some [10, 0, 0, 0, 0, 0]) (hov2 : ov[2]? = some [99, 30, 50, 50, 1, 99999]) {d : Nat} {Q : Option Value → xe_H → Prop} {hb : xe_H} (kk : (∀ (r : Int32) (h' : xe_H), xk [(0, 9), (115, 1), (83, 0), (29, 0), (31, 0), (33, 0), (35, 0), (37, 0), (39, 0), (41, 0), (43, 0), (45, 0), (47, 0), (49, 0), (51, 0), (125, 0), (29, 2), (31, 2), (33, 2), (35, 2), (37, 2), (39, 2), (41, 2), (43, 2), (45, 2), (47, 2), (49, 2), (51, 2), (127, 0), (1, 5), (115, 23)] hb h' → Q (some (.int r)) h')) : ∀ m : Nat, (∀ (x1 : Int32) (x2 : Int32) (h : xe_H), (0 ≤ x2.toInt ∧ x2.toInt ≤ 12) → xk [(0, 9), (115, 1), (83, 0), (29, 0), (31, 0), (33, 0), (35, 0), (37, 0), (39, 0), (41, 0), (43, 0), (45, 0), (47, 0), (49, 0), (51, 0), (125, 0), (29, 2), (31, 2), (33, 2), (35, 2), (37, 2), (39, 2), (41, 2), (43, 2), (45, 2), (47, 2), (49, 2), (51, 2), (127, 0), (1, 5), (115, 23)] hb h → (-1) * x2.toInt + 12 < (m : Int) → xw J ov (d + 2) 142 (4, [(0, .ref 1), (1, .int x1), (2, .int x2)], [], h) Q) := by
  intro m
  induction m with
  | zero =>
    intro x1 x2 h b2 K hm; have rx1 := xc_rng x1; exfalso; omega
  | succ m ih =>
    have i0 := ih
    intro x1 x2 h b2 K hm
    have rx1 := xc_rng x1
    refine xi_iload_n (pc' := 5) (x := x2) kc_142_4 rfl rfl ?_
    refine xi_bipush (pc' := 7) (v := 12) kc_142_5 rfl rfl ?_
    by_cases c1 : 12 ≤ x2.toInt
    · refine xi_cmt (pc' := 42) kc_142_7 rfl (xc_ge_t (X := x2.toInt) (Y := 12) rfl (by decide) (by omega)) ?_
      refine xi_iload_n (pc' := 43) (x := x1) kc_142_42 rfl rfl ?_
      refine xi_ireturn kc_142_43 mr_142 rfl ?_
      exact kk x1 h K
    · refine xi_cmf (pc' := 10) kc_142_7 rfl (xc_ge_f (X := x2.toInt) (Y := 12) rfl (by decide) (by omega)) ?_
      refine xi_aload_n (pc' := 11) (x := 1) kc_142_10 rfl rfl ?_
      refine xp_1 K.1 (fun u2 u3 bu2 bu3 A4 => ?_)
      refine xi_getfield (pc' := 14) (v := .ref 3) kc_142_11 rfl rfl rfl A4 rfl ?_
      refine xi_iload_n (pc' := 15) (x := x2) kc_142_14 rfl rfl ?_
      have A5 := xk_ex K.1 xD_3
      obtain ⟨pt6, ept6, mpt6⟩ := xR_3 (i := x2) (by omega) (by omega)
      refine xj_aaload (pc' := 16) (b := pt6) kc_142_15 rfl A5 rfl (xi_in (n := 12) (by omega) (by omega)) ept6 ?_
      obtain ⟨u7, u8, u9, u10, pt11, bu7, bu8, bu9, bu10, mpt11, A12⟩ := xg_wall K.1 mpt6
      refine xi_virtual (mj := 105) (as := []) (st1 := []) (lv0 := [(0, .ref pt6)]) kc_142_16 rfl rfl rfl rfl rfl A12 (Nat.le_of_ble_eq_true rfl) (hJ _ _ _ _ (by decide)) (xm_le ml_105 rfl) rfl ?_
      refine xi_aload_n (pc' := 1) (x := pt6) kc_105_0 rfl rfl ?_
      refine xi_getfield (pc' := 4) (v := .int u7) kc_105_1 rfl rfl rfl A12 rfl ?_
      refine xi_static (mj := 89) (as := [.int u7]) (st1 := []) (lv0 := [(0, .int u7)]) kc_105_4 rfl rfl (Nat.le_of_ble_eq_true rfl) rfl rfl (Nat.le_of_ble_eq_true rfl) (hJ _ _ _ _ (by decide)) (xm_le ml_89 rfl) rfl ?_
      refine xi_iload_n (pc' := 1) (x := u7) kc_89_0 rfl rfl ?_
      by_cases c13 : u7.toInt < 0
      · refine xi_ift (pc' := 14) kc_89_1 rfl (xc_lt_t (X := u7.toInt) (Y := 0) rfl (by decide) (by omega)) ?_
        refine xi_iconst (pc' := 15) (v := 0) kc_89_14 rfl rfl ?_
        refine xi_ireturn kc_89_15 mr_89 rfl ?_
        show xw J ov (d + 1) 105 (7, [(0, .ref pt6)], [.int 0], h) _
        refine xi_ireturn kc_105_7 mr_105 rfl ?_
        show xw J ov (d + 2) 142 (19, [(0, .ref 1), (1, .int x1), (2, .int x2)], [.int 0], h) _
        refine xi_ift (pc' := 36) kc_142_19 rfl rfl ?_
        refine xcps2 (α := Int32) (x2 + 1) (fun v14 ev14 => ?_)
        have zv14 : v14.toInt = (x2.toInt + 1) := by rw [← ev14]; exact (xz_add (X := x2.toInt) (Y := 1) rfl (by decide) (by omega) (by omega)).trans (by omega)
        refine xi_iinc (pc' := 39) (x := x2) (v := v14) (lv' := [(2, .int v14), (0, .ref 1), (1, .int x1)]) kc_142_36 rfl rfl ev14 rfl (xm_lt ml_142 rfl) ?_
        refine xi_goto (pc' := 4) kc_142_39 rfl ?_
        refine xw_lv (b := [(0, .ref 1), (1, .int x1), (2, .int v14)]) (lvS_cons (lvS_cons (lvS_cons (lvS_nil (show ([2, 0, 1] : List Nat).Nodup by decide)) rfl) rfl) rfl) ?_
        exact i0 x1 v14 h (by omega) K (by omega)
      · refine xi_iff (pc' := 4) kc_89_1 rfl (xc_lt_f (X := u7.toInt) (Y := 0) rfl (by decide) (by omega)) ?_
        refine xi_iload_n (pc' := 5) (x := u7) kc_89_4 rfl rfl ?_
        refine xi_bipush (pc' := 7) (v := 6) kc_89_5 rfl rfl ?_
        by_cases c15 : 6 ≤ u7.toInt
        · refine xi_cmt (pc' := 14) kc_89_7 rfl (xc_ge_t (X := u7.toInt) (Y := 6) rfl (by decide) (by omega)) ?_
          refine xi_iconst (pc' := 15) (v := 0) kc_89_14 rfl rfl ?_
          refine xi_ireturn kc_89_15 mr_89 rfl ?_
          show xw J ov (d + 1) 105 (7, [(0, .ref pt6)], [.int 0], h) _
          refine xi_ireturn kc_105_7 mr_105 rfl ?_
          show xw J ov (d + 2) 142 (19, [(0, .ref 1), (1, .int x1), (2, .int x2)], [.int 0], h) _
          refine xi_ift (pc' := 36) kc_142_19 rfl rfl ?_
          refine xcps2 (α := Int32) (x2 + 1) (fun v16 ev16 => ?_)
          have zv16 : v16.toInt = (x2.toInt + 1) := by rw [← ev16]; exact (xz_add (X := x2.toInt) (Y := 1) rfl (by decide) (by omega) (by omega)).trans (by omega)
          refine xi_iinc (pc' := 39) (x := x2) (v := v16) (lv' := [(2, .int v16), (0, .ref 1), (1, .int x1)]) kc_142_36 rfl rfl ev16 rfl (xm_lt ml_142 rfl) ?_
          refine xi_goto (pc' := 4) kc_142_39 rfl ?_
          refine xw_lv (b := [(0, .ref 1), (1, .int x1), (2, .int v16)]) (lvS_cons (lvS_cons (lvS_cons (lvS_nil (show ([2, 0, 1] : List Nat).Nodup by decide)) rfl) rfl) rfl) ?_
          exact i0 x1 v16 h (by omega) K (by omega)
        · refine xi_cmf (pc' := 10) kc_89_7 rfl (xc_ge_f (X := u7.toInt) (Y := 6) rfl (by decide) (by omega)) ?_
          refine xi_iconst (pc' := 11) (v := 1) kc_89_10 rfl rfl ?_
          refine xi_goto (pc' := 15) kc_89_11 rfl ?_
          refine xi_ireturn kc_89_15 mr_89 rfl ?_
          show xw J ov (d + 1) 105 (7, [(0, .ref pt6)], [.int 1], h) _
          refine xi_ireturn kc_105_7 mr_105 rfl ?_
          show xw J ov (d + 2) 142 (19, [(0, .ref 1), (1, .int x1), (2, .int x2)], [.int 1], h) _
          refine xi_iff (pc' := 22) kc_142_19 rfl rfl ?_
          refine xi_iload_n (pc' := 23) (x := x1) kc_142_22 rfl rfl ?_
          refine xi_iconst (pc' := 24) (v := 1) kc_142_23 rfl rfl ?_
          refine xi_aload_n (pc' := 25) (x := 1) kc_142_24 rfl rfl ?_
          refine xi_getfield (pc' := 28) (v := .ref 3) kc_142_25 rfl rfl rfl A4 rfl ?_
          refine xi_iload_n (pc' := 29) (x := x2) kc_142_28 rfl rfl ?_
          refine xj_aaload (pc' := 30) (b := pt6) kc_142_29 rfl A5 rfl (xi_in (n := 12) (by omega) (by omega)) ept6 ?_
          refine xi_getfield (pc' := 33) (v := .int u7) kc_142_30 rfl rfl rfl A12 rfl ?_
          refine xcps2 (α := Int32) ((1 : Int32) <<< (u7 &&& 31)) (fun v17 ev17 => ?_)
          have rv17 := xc_rng v17
          have bv17 : 1 ≤ v17.toInt ∧ v17.toInt ≤ 64 := by rw [← ev17]; exact xj_shl6 (by omega) (by omega)
          refine xi_ishl (pc' := 34) (v := v17) kc_142_33 rfl ev17 ?_
          refine xcps2 (α := Int32) ((x1 : Int32) ||| v17) (fun v18 ev18 => ?_)
          have rv18 := xc_rng v18
          refine xi_ior (pc' := 35) (v := v18) kc_142_34 rfl ev18 ?_
          refine xi_istore_n (pc' := 36) (lv' := [(1, .int v18), (0, .ref 1), (2, .int x2)]) kc_142_35 rfl rfl (xm_lt ml_142 rfl) ?_
          refine xcps2 (α := Int32) (x2 + 1) (fun v19 ev19 => ?_)
          have zv19 : v19.toInt = (x2.toInt + 1) := by rw [← ev19]; exact (xz_add (X := x2.toInt) (Y := 1) rfl (by decide) (by omega) (by omega)).trans (by omega)
          refine xi_iinc (pc' := 39) (x := x2) (v := v19) (lv' := [(2, .int v19), (1, .int v18), (0, .ref 1)]) kc_142_36 rfl rfl ev19 rfl (xm_lt ml_142 rfl) ?_
          refine xi_goto (pc' := 4) kc_142_39 rfl ?_
          refine xw_lv (b := [(0, .ref 1), (1, .int v18), (2, .int v19)]) (lvS_cons (lvS_cons (lvS_cons (lvS_nil (show ([2, 1, 0] : List Nat).Nodup by decide)) rfl) rfl) rfl) ?_
          exact i0 v18 v19 h (by omega) K (by omega)
set_option maxHeartbeats 4000000 in
theorem mt_142_0 {J : xe_J} {ov : List (List Int32)} (hJ : ∀ d mj as h, mj ≠ xe_loff → J d mj as h = none) (hov1 : ov[1]? = some [10, 0, 0, 0, 0, 0]) (hov2 : ov[2]? = some [99, 30, 50, 50, 1, 99999]) {d : Nat} {Q : Option Value → xe_H → Prop} {h : xe_H} (T : xt h) (kk : (∀ (r : Int32) (h' : xe_H), xk [(0, 9), (115, 1), (83, 0), (29, 0), (31, 0), (33, 0), (35, 0), (37, 0), (39, 0), (41, 0), (43, 0), (45, 0), (47, 0), (49, 0), (51, 0), (125, 0), (29, 2), (31, 2), (33, 2), (35, 2), (37, 2), (39, 2), (41, 2), (43, 2), (45, 2), (47, 2), (49, 2), (51, 2), (127, 0), (1, 5), (115, 23)] h h' → Q (some (.int r)) h')) : xw J ov (d + 2) 142 (0, [(0, .ref 1)], [], h) Q := by
  have K : xk [(0, 9), (115, 1), (83, 0), (29, 0), (31, 0), (33, 0), (35, 0), (37, 0), (39, 0), (41, 0), (43, 0), (45, 0), (47, 0), (49, 0), (51, 0), (125, 0), (29, 2), (31, 2), (33, 2), (35, 2), (37, 2), (39, 2), (41, 2), (43, 2), (45, 2), (47, 2), (49, 2), (51, 2), (127, 0), (1, 5), (115, 23)] h h := xk_re T
  refine xi_iconst (pc' := 1) (v := 0) kc_142_0 rfl rfl ?_
  refine xi_istore_n (pc' := 2) (lv' := [(1, .int 0), (0, .ref 1)]) kc_142_1 rfl rfl (xm_lt ml_142 rfl) ?_
  refine xi_iconst (pc' := 3) (v := 0) kc_142_2 rfl rfl ?_
  refine xi_istore_n (pc' := 4) (lv' := [(2, .int 0), (1, .int 0), (0, .ref 1)]) kc_142_3 rfl rfl (xm_lt ml_142 rfl) ?_
  have zc0 : (0 : Int32).toInt = 0 := by decide
  refine xw_lv (b := [(0, .ref 1), (1, .int 0), (2, .int 0)]) (lvS_cons (lvS_cons (lvS_cons (lvS_nil (show ([2, 1, 0] : List Nat).Nodup by decide)) rfl) rfl) rfl) ?_
  exact (lp_142_0 hJ hov1 hov2 (d := d) (hb := h) (fun r9 h9 K9 => kk r9 h9 (xk_tr K K9 rfl)) 13) 0 0 h (by omega) (xk_re K.1) (by omega)
set_option maxHeartbeats 4000000 in
theorem mt_143_0 {J : xe_J} {ov : List (List Int32)} (hJ : ∀ d mj as h, mj ≠ xe_loff → J d mj as h = none) (hov1 : ov[1]? = some [10, 0, 0, 0, 0, 0]) (hov2 : ov[2]? = some [99, 30, 50, 50, 1, 99999]) {d : Nat} {Q : Option Value → xe_H → Prop} {h : xe_H} {x1 : Int32} {x2 : Int32} (T : xt h) (b1 : (0 ≤ x1.toInt ∧ x1.toInt ≤ 63)) (kk : (∀ h' : xe_H, xk [(0, 9), (115, 1), (83, 0), (29, 0), (31, 0), (33, 0), (35, 0), (37, 0), (39, 0), (41, 0), (43, 0), (45, 0), (47, 0), (49, 0), (51, 0), (125, 0), (29, 2), (31, 2), (33, 2), (35, 2), (37, 2), (39, 2), (41, 2), (43, 2), (45, 2), (47, 2), (49, 2), (51, 2), (127, 0), (1, 5), (115, 23)] h h' → Q none h')) : xw J ov (d + 1) 143 (0, [(0, .ref 67), (1, .int x1), (2, .int x2)], [], h) Q := by
  have K : xk [(0, 9), (115, 1), (83, 0), (29, 0), (31, 0), (33, 0), (35, 0), (37, 0), (39, 0), (41, 0), (43, 0), (45, 0), (47, 0), (49, 0), (51, 0), (125, 0), (29, 2), (31, 2), (33, 2), (35, 2), (37, 2), (39, 2), (41, 2), (43, 2), (45, 2), (47, 2), (49, 2), (51, 2), (127, 0), (1, 5), (115, 23)] h h := xk_re T
  have rx2 := xc_rng x2
  refine xi_aload_n (pc' := 1) (x := 67) kc_143_0 rfl rfl ?_
  refine xp_67 K.1 (fun u1 u2 bu1 bu2 A3 => ?_)
  refine xi_getfield (pc' := 4) (v := .ref 68) kc_143_1 rfl rfl rfl A3 rfl ?_
  refine xi_iconst (pc' := 5) (v := 0) kc_143_4 rfl rfl ?_
  refine xi_static (mj := 1) (as := [.ref 68, .int 0]) (st1 := []) (lv0 := [(0, .ref 68), (1, .int 0)]) kc_143_5 rfl rfl (Nat.le_of_ble_eq_true rfl) rfl rfl (Nat.le_of_ble_eq_true rfl) (hJ _ _ _ _ (by decide)) (xm_le ml_1 rfl) rfl ?_
  refine xcps4 (xk_arr K.1 xD_68) (fun y4 A4 hy4 ry4 => ?_)
  refine xl_fill (N := 6) (by decide) rfl (by decide) hy4 A4 (fun hh6 eh5 => ?_)
  have hy7 : (List.replicate 6 (0 : Int32)).length = 6 := List.length_replicate
  have ry7 := xj_fill (n := 6) (v := 0) (lo := (-2147483648)) (hi := 2147483647) (by first | omega | decide) (by first | omega | decide)
  have K8 := xk_pa K (xk_wa rfl) xD_68 hy7 ry7 eh5
  show xw J ov (d + 1) 143 (8, [(0, .ref 67), (1, .int x1), (2, .int x2)], [], hh6) _
  refine xi_aload_n (pc' := 9) (x := 67) kc_143_8 rfl rfl ?_
  have A9 := ((eh5.2.1 67 (by decide)).trans A3)
  refine xi_getfield (pc' := 12) (v := .ref 69) kc_143_9 rfl rfl rfl A9 rfl ?_
  refine xi_iconst (pc' := 13) (v := 0) kc_143_12 rfl rfl ?_
  refine xi_static (mj := 1) (as := [.ref 69, .int 0]) (st1 := []) (lv0 := [(0, .ref 69), (1, .int 0)]) kc_143_13 rfl rfl (Nat.le_of_ble_eq_true rfl) rfl rfl (Nat.le_of_ble_eq_true rfl) (hJ _ _ _ _ (by decide)) (xm_le ml_1 rfl) rfl ?_
  refine xcps4 (xk_arr K8.1 xD_69) (fun y10 A10 hy10 ry10 => ?_)
  refine xl_fill (N := 12) (by decide) rfl (by decide) hy10 A10 (fun hh12 eh11 => ?_)
  have hy13 : (List.replicate 12 (0 : Int32)).length = 12 := List.length_replicate
  have ry13 := xj_fill (n := 12) (v := 0) (lo := (-2147483648)) (hi := 2147483647) (by first | omega | decide) (by first | omega | decide)
  have K14 := xk_pa K8 (xk_wa rfl) xD_69 hy13 ry13 eh11
  show xw J ov (d + 1) 143 (16, [(0, .ref 67), (1, .int x1), (2, .int x2)], [], hh12) _
  refine xi_aload_n (pc' := 17) (x := 67) kc_143_16 rfl rfl ?_
  refine xi_iload_n (pc' := 18) (x := x1) kc_143_17 rfl rfl ?_
  have A15 := ((eh11.2.1 67 (by decide)).trans A9)
  refine xi_putfield (pc' := 21) (fs' := [.ref 68, .ref 69, .int x1, .int u2]) kc_143_18 rfl rfl rfl A15 rfl rfl rfl (Nat.le_of_ble_eq_true rfl) rfl (fun hh17 eh16 => ?_)
  have K18 := xk_pf (k := 2) (v := x1) K14 (xk_wf rfl) xD_67 A15 rfl (by first | omega | decide) (by first | omega | decide) eh16 rfl
  refine xi_aload_n (pc' := 22) (x := 67) kc_143_21 rfl rfl ?_
  refine xi_iload_n (pc' := 23) (x := x2) kc_143_22 rfl rfl ?_
  refine xi_putfield (pc' := 26) (fs' := [.ref 68, .ref 69, .int x1, .int x2]) kc_143_23 rfl rfl rfl eh16.1 rfl rfl rfl (Nat.le_of_ble_eq_true rfl) rfl (fun hh20 eh19 => ?_)
  have K21 := xk_pf (k := 3) (v := x2) K18 (xk_wf rfl) xD_67 eh16.1 rfl (by first | omega | decide) (by first | omega | decide) eh19 rfl
  refine xi_return kc_143_26 mr_143 ?_
  exact kk hh20 K21
set_option maxHeartbeats 4000000 in
theorem lp_141_0 {J : xe_J} {ov : List (List Int32)} (hJ : ∀ d mj as h, mj ≠ xe_loff → J d mj as h = none) (hov1 : ov[1]? = some [10, 0, 0, 0, 0, 0]) (hov2 : ov[2]? = some [99, 30, 50, 50, 1, 99999]) {d : Nat} {Q : Option Value → xe_H → Prop} {hb : xe_H} (kk : (∀ (r : Int32) (h' : xe_H), xk [(0, 9), (115, 1), (83, 0), (29, 0), (31, 0), (33, 0), (35, 0), (37, 0), (39, 0), (41, 0), (43, 0), (45, 0), (47, 0), (49, 0), (51, 0), (125, 0), (29, 2), (31, 2), (33, 2), (35, 2), (37, 2), (39, 2), (41, 2), (43, 2), (45, 2), (47, 2), (49, 2), (51, 2), (127, 0), (1, 5), (115, 23)] hb h' → Q (some (.int r)) h')) : ∀ m : Nat, (∀ (x2 : Int32) (x3 : Int32) (x4 : Int32) (h : xe_H), (0 ≤ x2.toInt ∧ x2.toInt ≤ 11) → (0 ≤ x3.toInt ∧ x3.toInt ≤ 600) → (0 ≤ x4.toInt ∧ x4.toInt ≤ 600) → xk [(0, 9), (115, 1), (83, 0), (29, 0), (31, 0), (33, 0), (35, 0), (37, 0), (39, 0), (41, 0), (43, 0), (45, 0), (47, 0), (49, 0), (51, 0), (125, 0), (29, 2), (31, 2), (33, 2), (35, 2), (37, 2), (39, 2), (41, 2), (43, 2), (45, 2), (47, 2), (49, 2), (51, 2), (127, 0), (1, 5), (115, 23)] hb h → (-1) * x4.toInt + 600 < (m : Int) → xw J ov (d + 5) 141 (18, [(0, .ref 66), (2, .int x2), (3, .int x3), (4, .int x4)], [], h) Q) := by
  intro m
  induction m with
  | zero =>
    intro x2 x3 x4 h b2 b3 b4 K hm; exfalso; omega
  | succ m ih =>
    have i0 := ih
    intro x2 x3 x4 h b2 b3 b4 K hm
    refine xi_iload (pc' := 20) (x := x4) kc_141_18 rfl rfl ?_
    refine xi_iload_n (pc' := 21) (x := x3) kc_141_20 rfl rfl ?_
    by_cases c1 : x3.toInt ≤ x4.toInt
    · refine xi_cmt (pc' := 51) kc_141_21 rfl (xc_ge_t (X := x4.toInt) (Y := x3.toInt) rfl rfl (by omega)) ?_
      refine xi_iload_n (pc' := 52) (x := x2) kc_141_51 rfl rfl ?_
      refine xi_static (mj := 104) (as := [.int x2]) (st1 := []) (lv0 := [(0, .int x2)]) kc_141_52 rfl rfl (Nat.le_of_ble_eq_true rfl) rfl rfl (Nat.le_of_ble_eq_true rfl) (hJ _ _ _ _ (by decide)) (xm_le ml_104 rfl) rfl ?_
      refine xi_iload_n (pc' := 1) (x := x2) kc_104_0 rfl rfl ?_
      refine xi_iff (pc' := 4) kc_104_1 rfl (xc_lt_f (X := x2.toInt) (Y := 0) rfl (by decide) (by omega)) ?_
      refine xi_iload_n (pc' := 5) (x := x2) kc_104_4 rfl rfl ?_
      refine xi_bipush (pc' := 7) (v := 12) kc_104_5 rfl rfl ?_
      refine xi_cmf (pc' := 10) kc_104_7 rfl (xc_ge_f (X := x2.toInt) (Y := 12) rfl (by decide) (by omega)) ?_
      refine xi_iconst (pc' := 11) (v := 1) kc_104_10 rfl rfl ?_
      refine xi_goto (pc' := 15) kc_104_11 rfl ?_
      refine xi_ireturn kc_104_15 mr_104 rfl ?_
      show xw J ov (d + 5) 141 (55, [(0, .ref 66), (2, .int x2), (3, .int x3), (4, .int x4)], [.int 1], h) _
      refine xi_iff (pc' := 58) kc_141_55 rfl rfl ?_
      refine xi_aload_n (pc' := 59) (x := 66) kc_141_58 rfl rfl ?_
      refine xp_66 K.1 (fun u3 wl2 bu3 A4 => ?_)
      refine xi_getfield (pc' := 62) (v := .ref 67) kc_141_59 rfl rfl rfl A4 rfl ?_
      refine xp_67 K.1 (fun u5 u6 bu5 bu6 A7 => ?_)
      refine xi_getfield (pc' := 65) (v := .ref 69) kc_141_62 rfl rfl rfl A7 rfl ?_
      refine xi_iload_n (pc' := 66) (x := x2) kc_141_65 rfl rfl ?_
      refine xcps4 (xk_arr K.1 xD_69) (fun y8 A8 hy8 ry8 => ?_)
      refine xcps4 (xj_get hy8 ry8 (i := x2) (by omega) (by omega)) (fun v9 ev9 bv9 dv9 => ?_)
      refine xi_iaload (pc' := 67) (v := v9) kc_141_66 rfl A8 (by decide) rfl (xi_in (by omega) (by rw [hy8]; omega)) ev9 ?_
      refine xi_goto (pc' := 71) kc_141_67 rfl ?_
      refine xi_ireturn kc_141_71 mr_141 rfl ?_
      exact kk v9 h K
    · refine xi_cmf (pc' := 24) kc_141_21 rfl (xc_ge_f (X := x4.toInt) (Y := x3.toInt) rfl rfl (by omega)) ?_
      refine xi_iload (pc' := 26) (x := x4) kc_141_24 rfl rfl ?_
      refine xi_sipush (pc' := 29) (v := 600) kc_141_26 rfl rfl ?_
      refine xi_cmf (pc' := 32) kc_141_29 rfl (xc_ge_f (X := x4.toInt) (Y := 600) rfl (by decide) (by omega)) ?_
      refine xi_aload_n (pc' := 33) (x := 66) kc_141_32 rfl rfl ?_
      refine xp_66 K.1 (fun u11 wl10 bu11 A12 => ?_)
      refine xi_getfield (pc' := 36) (v := .ref 1) kc_141_33 rfl rfl rfl A12 rfl ?_
      refine xi_aload_n (pc' := 37) (x := 66) kc_141_36 rfl rfl ?_
      refine xi_getfield (pc' := 40) (v := .ref 67) kc_141_37 rfl rfl rfl A12 rfl ?_
      refine xi_iload (pc' := 42) (x := x4) kc_141_40 rfl rfl ?_
      refine xp_1 K.1 (fun u13 u14 bu13 bu14 A15 => ?_)
      refine xi_virtual (mj := 124) (as := [.ref 67, .int x4]) (st1 := []) (lv0 := [(0, .ref 1), (1, .ref 67), (2, .int x4)]) kc_141_42 rfl rfl rfl rfl rfl A15 (Nat.le_of_ble_eq_true rfl) (hJ _ _ _ _ (by decide)) (xm_le ml_124 rfl) rfl ?_
      refine mt_124_1 hJ hov1 hov2 (d := d) (x2 := x4) K.1 (by first | omega | decide) (fun hh17 K18 => ?_)
      have K19 := xk_tr K K18 rfl
      refine xp_1 K19.1 (fun u20 u21 bu20 bu21 A22 => ?_)
      have e23 : u13 = u20 := xk_eqi (q := 5) K18 rfl A15 A22 rfl rfl
      subst e23
      show xw J ov (d + 5) 141 (45, [(0, .ref 66), (2, .int x2), (3, .int x3), (4, .int x4)], [], hh17) _
      refine xcps2 (α := Int32) (x4 + 1) (fun v24 ev24 => ?_)
      have zv24 : v24.toInt = (x4.toInt + 1) := by rw [← ev24]; exact (xz_add (X := x4.toInt) (Y := 1) rfl (by decide) (by omega) (by omega)).trans (by omega)
      refine xi_iinc (pc' := 48) (x := x4) (v := v24) (lv' := [(4, .int v24), (0, .ref 66), (2, .int x2), (3, .int x3)]) kc_141_45 rfl rfl ev24 rfl (xm_lt ml_141 rfl) ?_
      refine xi_goto (pc' := 18) kc_141_48 rfl ?_
      refine xw_lv (b := [(0, .ref 66), (2, .int x2), (3, .int x3), (4, .int v24)]) (lvS_cons (lvS_cons (lvS_cons (lvS_cons (lvS_nil (show ([4, 0, 2, 3] : List Nat).Nodup by decide)) rfl) rfl) rfl) rfl) ?_
      exact i0 x2 x3 v24 hh17 (by omega) (by omega) (by omega) K19 (by omega)
set_option maxHeartbeats 4000000 in
theorem mt_141_0 {J : xe_J} {ov : List (List Int32)} (hJ : ∀ d mj as h, mj ≠ xe_loff → J d mj as h = none) (hov1 : ov[1]? = some [10, 0, 0, 0, 0, 0]) (hov2 : ov[2]? = some [99, 30, 50, 50, 1, 99999]) {d : Nat} {Q : Option Value → xe_H → Prop} {h : xe_H} {x1 : Int32} {x2 : Int32} {x3 : Int32} (T : xt h) (b1 : (0 ≤ x1.toInt ∧ x1.toInt ≤ 63)) (b2 : (0 ≤ x2.toInt ∧ x2.toInt ≤ 11)) (b3 : (0 ≤ x3.toInt ∧ x3.toInt ≤ 600)) (kk : (∀ (r : Int32) (h' : xe_H), xk [(0, 9), (115, 1), (83, 0), (29, 0), (31, 0), (33, 0), (35, 0), (37, 0), (39, 0), (41, 0), (43, 0), (45, 0), (47, 0), (49, 0), (51, 0), (125, 0), (29, 2), (31, 2), (33, 2), (35, 2), (37, 2), (39, 2), (41, 2), (43, 2), (45, 2), (47, 2), (49, 2), (51, 2), (127, 0), (1, 5), (115, 23)] h h' → Q (some (.int r)) h')) : xw J ov (d + 5) 141 (0, [(0, .ref 66), (1, .int x1), (2, .int x2), (3, .int x3)], [], h) Q := by
  have K : xk [(0, 9), (115, 1), (83, 0), (29, 0), (31, 0), (33, 0), (35, 0), (37, 0), (39, 0), (41, 0), (43, 0), (45, 0), (47, 0), (49, 0), (51, 0), (125, 0), (29, 2), (31, 2), (33, 2), (35, 2), (37, 2), (39, 2), (41, 2), (43, 2), (45, 2), (47, 2), (49, 2), (51, 2), (127, 0), (1, 5), (115, 23)] h h := xk_re T
  refine xi_aload_n (pc' := 1) (x := 66) kc_141_0 rfl rfl ?_
  refine xp_66 K.1 (fun u2 wl1 bu2 A3 => ?_)
  refine xi_getfield (pc' := 4) (v := .ref 67) kc_141_1 rfl rfl rfl A3 rfl ?_
  refine xi_iload_n (pc' := 5) (x := x1) kc_141_4 rfl rfl ?_
  refine xi_aload_n (pc' := 6) (x := 66) kc_141_5 rfl rfl ?_
  refine xi_getfield (pc' := 9) (v := .ref 1) kc_141_6 rfl rfl rfl A3 rfl ?_
  refine xp_1 K.1 (fun u4 u5 bu4 bu5 A6 => ?_)
  refine xi_virtual (mj := 142) (as := []) (st1 := [.int x1, .ref 67]) (lv0 := [(0, .ref 1)]) kc_141_9 rfl rfl rfl rfl rfl A6 (Nat.le_of_ble_eq_true rfl) (hJ _ _ _ _ (by decide)) (xm_le ml_142 rfl) rfl ?_
  refine mt_142_0 hJ hov1 hov2 (d := d + 2)  K.1 (fun r7 hh8 K9 => ?_)
  have br7 := xc_rng r7
  have K10 := xk_tr K K9 rfl
  refine xp_1 K10.1 (fun u11 u12 bu11 bu12 A13 => ?_)
  have e14 : u4 = u11 := xk_eqi (q := 5) K9 rfl A6 A13 rfl rfl
  subst e14
  show xw J ov (d + 5) 141 (12, [(0, .ref 66), (1, .int x1), (2, .int x2), (3, .int x3)], [.int r7, .int x1, .ref 67], hh8) _
  refine xp_67 K10.1 (fun u15 u16 bu15 bu16 A17 => ?_)
  refine xi_virtual (mj := 143) (as := [.int x1, .int r7]) (st1 := []) (lv0 := [(0, .ref 67), (1, .int x1), (2, .int r7)]) kc_141_12 rfl rfl rfl rfl rfl A17 (Nat.le_of_ble_eq_true rfl) (hJ _ _ _ _ (by decide)) (xm_le ml_143 rfl) rfl ?_
  refine mt_143_0 hJ hov1 hov2 (d := d + 3) (x1 := x1) (x2 := r7) K10.1 (by first | omega | decide) (fun hh19 K20 => ?_)
  have K21 := xk_tr K10 K20 rfl
  refine xp_1 K21.1 (fun u22 u23 bu22 bu23 A24 => ?_)
  have e25 : u4 = u22 := xk_eqi (q := 5) K20 rfl A13 A24 rfl rfl
  subst e25
  show xw J ov (d + 5) 141 (15, [(0, .ref 66), (1, .int x1), (2, .int x2), (3, .int x3)], [], hh19) _
  refine xi_iconst (pc' := 16) (v := 0) kc_141_15 rfl rfl ?_
  refine xi_istore (pc' := 18) (lv' := [(4, .int 0), (0, .ref 66), (1, .int x1), (2, .int x2), (3, .int x3)]) kc_141_16 rfl rfl (xm_lt ml_141 rfl) ?_
  have zc0 : (0 : Int32).toInt = 0 := by decide
  refine xw_lv (b := [(0, .ref 66), (2, .int x2), (3, .int x3), (4, .int 0)]) (lvS_cons (lvS_cons (lvS_cons (lvS_cons (lvS_nil (show ([4, 0, 1, 2, 3] : List Nat).Nodup by decide)) rfl) rfl) rfl) rfl) ?_
  exact (lp_141_0 hJ hov1 hov2 (d := d) (hb := hh19) (fun r9 h9 K9 => kk r9 h9 (xk_tr K21 K9 rfl)) 601) x2 x3 0 hh19 (by omega) (by omega) (by omega) (xk_re K21.1) (by omega)
set_option maxHeartbeats 4000000 in
theorem mt_137_0 {J : xe_J} {ov : List (List Int32)} (hJ : ∀ d mj as h, mj ≠ xe_loff → J d mj as h = none) (hov1 : ov[1]? = some [10, 0, 0, 0, 0, 0]) (hov2 : ov[2]? = some [99, 30, 50, 50, 1, 99999]) {d : Nat} {Q : Option Value → xe_H → Prop} {h : xe_H} {x1 : Int32} {x2 : Int32} (T : xt h) (kk : (∀ (r : Int32) (h' : xe_H), xk [(0, 9), (115, 1), (83, 0), (29, 0), (31, 0), (33, 0), (35, 0), (37, 0), (39, 0), (41, 0), (43, 0), (45, 0), (47, 0), (49, 0), (51, 0), (125, 0), (29, 2), (31, 2), (33, 2), (35, 2), (37, 2), (39, 2), (41, 2), (43, 2), (45, 2), (47, 2), (49, 2), (51, 2), (127, 0), (1, 5), (115, 23)] h h' → Q (some (.int r)) h')) : xw J ov (d + 6) 137 (0, [(0, .ref 0), (1, .int x1), (2, .int x2)], [], h) Q := by
  have K : xk [(0, 9), (115, 1), (83, 0), (29, 0), (31, 0), (33, 0), (35, 0), (37, 0), (39, 0), (41, 0), (43, 0), (45, 0), (47, 0), (49, 0), (51, 0), (125, 0), (29, 2), (31, 2), (33, 2), (35, 2), (37, 2), (39, 2), (41, 2), (43, 2), (45, 2), (47, 2), (49, 2), (51, 2), (127, 0), (1, 5), (115, 23)] h h := xk_re T
  have rx1 := xc_rng x1
  have rx2 := xc_rng x2
  refine xi_aload_n (pc' := 1) (x := 0) kc_137_0 rfl rfl ?_
  refine xp_0 K.1 (fun u1 u2 bu1 bu2 A3 => ?_)
  refine xi_getfield (pc' := 4) (v := .ref 1) kc_137_1 rfl rfl rfl A3 rfl ?_
  refine xi_iload_n (pc' := 5) (x := x2) kc_137_4 rfl rfl ?_
  refine xp_1 K.1 (fun u4 u5 bu4 bu5 A6 => ?_)
  refine xi_virtual (mj := 108) (as := [.int x2]) (st1 := []) (lv0 := [(0, .ref 1), (1, .int x2)]) kc_137_5 rfl rfl rfl rfl rfl A6 (Nat.le_of_ble_eq_true rfl) (hJ _ _ _ _ (by decide)) (xm_le ml_108 rfl) rfl ?_
  refine xi_iload_n (pc' := 1) (x := x2) kc_108_0 rfl rfl ?_
  refine xi_static (mj := 104) (as := [.int x2]) (st1 := []) (lv0 := [(0, .int x2)]) kc_108_1 rfl rfl (Nat.le_of_ble_eq_true rfl) rfl rfl (Nat.le_of_ble_eq_true rfl) (hJ _ _ _ _ (by decide)) (xm_le ml_104 rfl) rfl ?_
  refine xi_iload_n (pc' := 1) (x := x2) kc_104_0 rfl rfl ?_
  by_cases c7 : x2.toInt < 0
  · refine xi_ift (pc' := 14) kc_104_1 rfl (xc_lt_t (X := x2.toInt) (Y := 0) rfl (by decide) (by omega)) ?_
    refine xi_iconst (pc' := 15) (v := 0) kc_104_14 rfl rfl ?_
    refine xi_ireturn kc_104_15 mr_104 rfl ?_
    show xw J ov (d + 5) 108 (4, [(0, .ref 1), (1, .int x2)], [.int 0], h) _
    refine xi_ift (pc' := 23) kc_108_4 rfl rfl ?_
    refine xi_iconst (pc' := 24) (v := 0) kc_108_23 rfl rfl ?_
    refine xi_ireturn kc_108_24 mr_108 rfl ?_
    show xw J ov (d + 6) 137 (8, [(0, .ref 0), (1, .int x1), (2, .int x2)], [.int 0], h) _
    refine xi_iff (pc' := 11) kc_137_8 rfl rfl ?_
    refine xi_aload_n (pc' := 12) (x := 0) kc_137_11 rfl rfl ?_
    refine xi_iconst (pc' := 13) (v := (-1)) kc_137_12 rfl rfl ?_
    refine xi_virtual (mj := 90) (as := [.int (-1)]) (st1 := []) (lv0 := [(0, .ref 0), (1, .int (-1))]) kc_137_13 rfl rfl rfl rfl rfl A3 (Nat.le_of_ble_eq_true rfl) (hJ _ _ _ _ (by decide)) (xm_le ml_90 rfl) rfl ?_
    refine xi_iload_n (pc' := 1) (x := (-1)) kc_90_0 rfl rfl ?_
    refine xi_ineg (pc' := 2) (v := 1) kc_90_1 rfl rfl ?_
    refine xi_istore_n (pc' := 3) (lv' := [(2, .int 1), (0, .ref 0), (1, .int (-1))]) kc_90_2 rfl rfl (xm_lt ml_90 rfl) ?_
    refine xi_iload_n (pc' := 4) (x := 1) kc_90_3 rfl rfl ?_
    refine xi_iff (pc' := 7) kc_90_4 rfl rfl ?_
    refine xi_iload_n (pc' := 8) (x := 1) kc_90_7 rfl rfl ?_
    refine xi_aload_n (pc' := 9) (x := 0) kc_90_8 rfl rfl ?_
    refine xi_getfield (pc' := 12) (v := .ref 94) kc_90_9 rfl rfl rfl A3 rfl ?_
    refine xcps4 (xk_arr K.1 xD_94) (fun y8 A8 hy8 ry8 => ?_)
    refine xi_arraylength (pc' := 13) (n := 7) (v := 7) kc_90_12 rfl (xl_lenI (by decide) (by decide) A8 hy8) rfl ?_
    refine xi_cmf (pc' := 16) kc_90_13 rfl rfl ?_
    refine xi_aload_n (pc' := 17) (x := 0) kc_90_16 rfl rfl ?_
    refine xi_getfield (pc' := 20) (v := .ref 94) kc_90_17 rfl rfl rfl A3 rfl ?_
    refine xi_iload_n (pc' := 21) (x := 1) kc_90_20 rfl rfl ?_
    refine xi_dup2 (pc' := 22) kc_90_21 rfl ⟨rfl, rfl⟩ ?_
    refine xcps4 (xj_get hy8 ry8 (i := 1) (by decide) (by decide)) (fun v9 ev9 bv9 dv9 => ?_)
    refine xi_iaload (pc' := 23) (v := v9) kc_90_22 rfl A8 (by decide) rfl (xi_in (by decide) (by rw [hy8]; decide)) ev9 ?_
    refine xi_iconst (pc' := 24) (v := 1) kc_90_23 rfl rfl ?_
    refine xcps2 (α := Int32) ((v9 : Int32) + 1) (fun v10 ev10 => ?_)
    have rv10 := xc_rng v10
    refine xi_iadd (pc' := 25) (v := v10) kc_90_24 rfl ev10 ?_
    refine xcps4 (xj_set (v := v10) hy8 ry8 1 (by first | omega | decide) (by first | omega | decide)) (fun y11 s11 hy11 ry11 => ?_)
    refine xi_iastore (pc' := 26) (x' := y11) kc_90_25 rfl A8 rfl (xi_in (by decide) (by rw [hy8]; decide)) s11 (fun hh11 eh11 => ?_)
    have K12 := xk_pa K (xk_wa rfl) xD_94 hy11 ry11 eh11
    refine xi_iload_n (pc' := 27) (x := (-1)) kc_90_26 rfl rfl ?_
    refine xi_ireturn kc_90_27 mr_90 rfl ?_
    show xw J ov (d + 6) 137 (16, [(0, .ref 0), (1, .int x1), (2, .int x2)], [.int (-1)], hh11) _
    refine xi_ireturn kc_137_16 mr_137 rfl ?_
    have zcm1 : ((-1) : Int32).toInt = (-1) := by decide
    exact kk (-1) hh11 K12
  · refine xi_iff (pc' := 4) kc_104_1 rfl (xc_lt_f (X := x2.toInt) (Y := 0) rfl (by decide) (by omega)) ?_
    refine xi_iload_n (pc' := 5) (x := x2) kc_104_4 rfl rfl ?_
    refine xi_bipush (pc' := 7) (v := 12) kc_104_5 rfl rfl ?_
    by_cases c13 : 12 ≤ x2.toInt
    · refine xi_cmt (pc' := 14) kc_104_7 rfl (xc_ge_t (X := x2.toInt) (Y := 12) rfl (by decide) (by omega)) ?_
      refine xi_iconst (pc' := 15) (v := 0) kc_104_14 rfl rfl ?_
      refine xi_ireturn kc_104_15 mr_104 rfl ?_
      show xw J ov (d + 5) 108 (4, [(0, .ref 1), (1, .int x2)], [.int 0], h) _
      refine xi_ift (pc' := 23) kc_108_4 rfl rfl ?_
      refine xi_iconst (pc' := 24) (v := 0) kc_108_23 rfl rfl ?_
      refine xi_ireturn kc_108_24 mr_108 rfl ?_
      show xw J ov (d + 6) 137 (8, [(0, .ref 0), (1, .int x1), (2, .int x2)], [.int 0], h) _
      refine xi_iff (pc' := 11) kc_137_8 rfl rfl ?_
      refine xi_aload_n (pc' := 12) (x := 0) kc_137_11 rfl rfl ?_
      refine xi_iconst (pc' := 13) (v := (-1)) kc_137_12 rfl rfl ?_
      refine xi_virtual (mj := 90) (as := [.int (-1)]) (st1 := []) (lv0 := [(0, .ref 0), (1, .int (-1))]) kc_137_13 rfl rfl rfl rfl rfl A3 (Nat.le_of_ble_eq_true rfl) (hJ _ _ _ _ (by decide)) (xm_le ml_90 rfl) rfl ?_
      refine xi_iload_n (pc' := 1) (x := (-1)) kc_90_0 rfl rfl ?_
      refine xi_ineg (pc' := 2) (v := 1) kc_90_1 rfl rfl ?_
      refine xi_istore_n (pc' := 3) (lv' := [(2, .int 1), (0, .ref 0), (1, .int (-1))]) kc_90_2 rfl rfl (xm_lt ml_90 rfl) ?_
      refine xi_iload_n (pc' := 4) (x := 1) kc_90_3 rfl rfl ?_
      refine xi_iff (pc' := 7) kc_90_4 rfl rfl ?_
      refine xi_iload_n (pc' := 8) (x := 1) kc_90_7 rfl rfl ?_
      refine xi_aload_n (pc' := 9) (x := 0) kc_90_8 rfl rfl ?_
      refine xi_getfield (pc' := 12) (v := .ref 94) kc_90_9 rfl rfl rfl A3 rfl ?_
      refine xcps4 (xk_arr K.1 xD_94) (fun y14 A14 hy14 ry14 => ?_)
      refine xi_arraylength (pc' := 13) (n := 7) (v := 7) kc_90_12 rfl (xl_lenI (by decide) (by decide) A14 hy14) rfl ?_
      refine xi_cmf (pc' := 16) kc_90_13 rfl rfl ?_
      refine xi_aload_n (pc' := 17) (x := 0) kc_90_16 rfl rfl ?_
      refine xi_getfield (pc' := 20) (v := .ref 94) kc_90_17 rfl rfl rfl A3 rfl ?_
      refine xi_iload_n (pc' := 21) (x := 1) kc_90_20 rfl rfl ?_
      refine xi_dup2 (pc' := 22) kc_90_21 rfl ⟨rfl, rfl⟩ ?_
      refine xcps4 (xj_get hy14 ry14 (i := 1) (by decide) (by decide)) (fun v15 ev15 bv15 dv15 => ?_)
      refine xi_iaload (pc' := 23) (v := v15) kc_90_22 rfl A14 (by decide) rfl (xi_in (by decide) (by rw [hy14]; decide)) ev15 ?_
      refine xi_iconst (pc' := 24) (v := 1) kc_90_23 rfl rfl ?_
      refine xcps2 (α := Int32) ((v15 : Int32) + 1) (fun v16 ev16 => ?_)
      have rv16 := xc_rng v16
      refine xi_iadd (pc' := 25) (v := v16) kc_90_24 rfl ev16 ?_
      refine xcps4 (xj_set (v := v16) hy14 ry14 1 (by first | omega | decide) (by first | omega | decide)) (fun y17 s17 hy17 ry17 => ?_)
      refine xi_iastore (pc' := 26) (x' := y17) kc_90_25 rfl A14 rfl (xi_in (by decide) (by rw [hy14]; decide)) s17 (fun hh17 eh17 => ?_)
      have K18 := xk_pa K (xk_wa rfl) xD_94 hy17 ry17 eh17
      refine xi_iload_n (pc' := 27) (x := (-1)) kc_90_26 rfl rfl ?_
      refine xi_ireturn kc_90_27 mr_90 rfl ?_
      show xw J ov (d + 6) 137 (16, [(0, .ref 0), (1, .int x1), (2, .int x2)], [.int (-1)], hh17) _
      refine xi_ireturn kc_137_16 mr_137 rfl ?_
      have zcm1 : ((-1) : Int32).toInt = (-1) := by decide
      exact kk (-1) hh17 K18
    · refine xi_cmf (pc' := 10) kc_104_7 rfl (xc_ge_f (X := x2.toInt) (Y := 12) rfl (by decide) (by omega)) ?_
      refine xi_iconst (pc' := 11) (v := 1) kc_104_10 rfl rfl ?_
      refine xi_goto (pc' := 15) kc_104_11 rfl ?_
      refine xi_ireturn kc_104_15 mr_104 rfl ?_
      show xw J ov (d + 5) 108 (4, [(0, .ref 1), (1, .int x2)], [.int 1], h) _
      refine xi_iff (pc' := 7) kc_108_4 rfl rfl ?_
      refine xi_aload_n (pc' := 8) (x := 1) kc_108_7 rfl rfl ?_
      refine xi_getfield (pc' := 11) (v := .ref 3) kc_108_8 rfl rfl rfl A6 rfl ?_
      refine xi_iload_n (pc' := 12) (x := x2) kc_108_11 rfl rfl ?_
      have A19 := xk_ex K.1 xD_3
      obtain ⟨pt20, ept20, mpt20⟩ := xR_3 (i := x2) (by omega) (by omega)
      refine xj_aaload (pc' := 13) (b := pt20) kc_108_12 rfl A19 rfl (xi_in (n := 12) (by omega) (by omega)) ept20 ?_
      obtain ⟨u21, u22, u23, u24, pt25, bu21, bu22, bu23, bu24, mpt25, A26⟩ := xg_wall K.1 mpt20
      refine xi_virtual (mj := 105) (as := []) (st1 := []) (lv0 := [(0, .ref pt20)]) kc_108_13 rfl rfl rfl rfl rfl A26 (Nat.le_of_ble_eq_true rfl) (hJ _ _ _ _ (by decide)) (xm_le ml_105 rfl) rfl ?_
      refine xi_aload_n (pc' := 1) (x := pt20) kc_105_0 rfl rfl ?_
      refine xi_getfield (pc' := 4) (v := .int u21) kc_105_1 rfl rfl rfl A26 rfl ?_
      refine xi_static (mj := 89) (as := [.int u21]) (st1 := []) (lv0 := [(0, .int u21)]) kc_105_4 rfl rfl (Nat.le_of_ble_eq_true rfl) rfl rfl (Nat.le_of_ble_eq_true rfl) (hJ _ _ _ _ (by decide)) (xm_le ml_89 rfl) rfl ?_
      refine xi_iload_n (pc' := 1) (x := u21) kc_89_0 rfl rfl ?_
      by_cases c27 : u21.toInt < 0
      · refine xi_ift (pc' := 14) kc_89_1 rfl (xc_lt_t (X := u21.toInt) (Y := 0) rfl (by decide) (by omega)) ?_
        refine xi_iconst (pc' := 15) (v := 0) kc_89_14 rfl rfl ?_
        refine xi_ireturn kc_89_15 mr_89 rfl ?_
        show xw J ov (d + 4) 105 (7, [(0, .ref pt20)], [.int 0], h) _
        refine xi_ireturn kc_105_7 mr_105 rfl ?_
        show xw J ov (d + 5) 108 (16, [(0, .ref 1), (1, .int x2)], [.int 0], h) _
        refine xi_ift (pc' := 23) kc_108_16 rfl rfl ?_
        refine xi_iconst (pc' := 24) (v := 0) kc_108_23 rfl rfl ?_
        refine xi_ireturn kc_108_24 mr_108 rfl ?_
        show xw J ov (d + 6) 137 (8, [(0, .ref 0), (1, .int x1), (2, .int x2)], [.int 0], h) _
        refine xi_iff (pc' := 11) kc_137_8 rfl rfl ?_
        refine xi_aload_n (pc' := 12) (x := 0) kc_137_11 rfl rfl ?_
        refine xi_iconst (pc' := 13) (v := (-1)) kc_137_12 rfl rfl ?_
        refine xi_virtual (mj := 90) (as := [.int (-1)]) (st1 := []) (lv0 := [(0, .ref 0), (1, .int (-1))]) kc_137_13 rfl rfl rfl rfl rfl A3 (Nat.le_of_ble_eq_true rfl) (hJ _ _ _ _ (by decide)) (xm_le ml_90 rfl) rfl ?_
        refine xi_iload_n (pc' := 1) (x := (-1)) kc_90_0 rfl rfl ?_
        refine xi_ineg (pc' := 2) (v := 1) kc_90_1 rfl rfl ?_
        refine xi_istore_n (pc' := 3) (lv' := [(2, .int 1), (0, .ref 0), (1, .int (-1))]) kc_90_2 rfl rfl (xm_lt ml_90 rfl) ?_
        refine xi_iload_n (pc' := 4) (x := 1) kc_90_3 rfl rfl ?_
        refine xi_iff (pc' := 7) kc_90_4 rfl rfl ?_
        refine xi_iload_n (pc' := 8) (x := 1) kc_90_7 rfl rfl ?_
        refine xi_aload_n (pc' := 9) (x := 0) kc_90_8 rfl rfl ?_
        refine xi_getfield (pc' := 12) (v := .ref 94) kc_90_9 rfl rfl rfl A3 rfl ?_
        refine xcps4 (xk_arr K.1 xD_94) (fun y28 A28 hy28 ry28 => ?_)
        refine xi_arraylength (pc' := 13) (n := 7) (v := 7) kc_90_12 rfl (xl_lenI (by decide) (by decide) A28 hy28) rfl ?_
        refine xi_cmf (pc' := 16) kc_90_13 rfl rfl ?_
        refine xi_aload_n (pc' := 17) (x := 0) kc_90_16 rfl rfl ?_
        refine xi_getfield (pc' := 20) (v := .ref 94) kc_90_17 rfl rfl rfl A3 rfl ?_
        refine xi_iload_n (pc' := 21) (x := 1) kc_90_20 rfl rfl ?_
        refine xi_dup2 (pc' := 22) kc_90_21 rfl ⟨rfl, rfl⟩ ?_
        refine xcps4 (xj_get hy28 ry28 (i := 1) (by decide) (by decide)) (fun v29 ev29 bv29 dv29 => ?_)
        refine xi_iaload (pc' := 23) (v := v29) kc_90_22 rfl A28 (by decide) rfl (xi_in (by decide) (by rw [hy28]; decide)) ev29 ?_
        refine xi_iconst (pc' := 24) (v := 1) kc_90_23 rfl rfl ?_
        refine xcps2 (α := Int32) ((v29 : Int32) + 1) (fun v30 ev30 => ?_)
        have rv30 := xc_rng v30
        refine xi_iadd (pc' := 25) (v := v30) kc_90_24 rfl ev30 ?_
        refine xcps4 (xj_set (v := v30) hy28 ry28 1 (by first | omega | decide) (by first | omega | decide)) (fun y31 s31 hy31 ry31 => ?_)
        refine xi_iastore (pc' := 26) (x' := y31) kc_90_25 rfl A28 rfl (xi_in (by decide) (by rw [hy28]; decide)) s31 (fun hh31 eh31 => ?_)
        have K32 := xk_pa K (xk_wa rfl) xD_94 hy31 ry31 eh31
        refine xi_iload_n (pc' := 27) (x := (-1)) kc_90_26 rfl rfl ?_
        refine xi_ireturn kc_90_27 mr_90 rfl ?_
        show xw J ov (d + 6) 137 (16, [(0, .ref 0), (1, .int x1), (2, .int x2)], [.int (-1)], hh31) _
        refine xi_ireturn kc_137_16 mr_137 rfl ?_
        have zcm1 : ((-1) : Int32).toInt = (-1) := by decide
        exact kk (-1) hh31 K32
      · refine xi_iff (pc' := 4) kc_89_1 rfl (xc_lt_f (X := u21.toInt) (Y := 0) rfl (by decide) (by omega)) ?_
        refine xi_iload_n (pc' := 5) (x := u21) kc_89_4 rfl rfl ?_
        refine xi_bipush (pc' := 7) (v := 6) kc_89_5 rfl rfl ?_
        by_cases c33 : 6 ≤ u21.toInt
        · refine xi_cmt (pc' := 14) kc_89_7 rfl (xc_ge_t (X := u21.toInt) (Y := 6) rfl (by decide) (by omega)) ?_
          refine xi_iconst (pc' := 15) (v := 0) kc_89_14 rfl rfl ?_
          refine xi_ireturn kc_89_15 mr_89 rfl ?_
          show xw J ov (d + 4) 105 (7, [(0, .ref pt20)], [.int 0], h) _
          refine xi_ireturn kc_105_7 mr_105 rfl ?_
          show xw J ov (d + 5) 108 (16, [(0, .ref 1), (1, .int x2)], [.int 0], h) _
          refine xi_ift (pc' := 23) kc_108_16 rfl rfl ?_
          refine xi_iconst (pc' := 24) (v := 0) kc_108_23 rfl rfl ?_
          refine xi_ireturn kc_108_24 mr_108 rfl ?_
          show xw J ov (d + 6) 137 (8, [(0, .ref 0), (1, .int x1), (2, .int x2)], [.int 0], h) _
          refine xi_iff (pc' := 11) kc_137_8 rfl rfl ?_
          refine xi_aload_n (pc' := 12) (x := 0) kc_137_11 rfl rfl ?_
          refine xi_iconst (pc' := 13) (v := (-1)) kc_137_12 rfl rfl ?_
          refine xi_virtual (mj := 90) (as := [.int (-1)]) (st1 := []) (lv0 := [(0, .ref 0), (1, .int (-1))]) kc_137_13 rfl rfl rfl rfl rfl A3 (Nat.le_of_ble_eq_true rfl) (hJ _ _ _ _ (by decide)) (xm_le ml_90 rfl) rfl ?_
          refine xi_iload_n (pc' := 1) (x := (-1)) kc_90_0 rfl rfl ?_
          refine xi_ineg (pc' := 2) (v := 1) kc_90_1 rfl rfl ?_
          refine xi_istore_n (pc' := 3) (lv' := [(2, .int 1), (0, .ref 0), (1, .int (-1))]) kc_90_2 rfl rfl (xm_lt ml_90 rfl) ?_
          refine xi_iload_n (pc' := 4) (x := 1) kc_90_3 rfl rfl ?_
          refine xi_iff (pc' := 7) kc_90_4 rfl rfl ?_
          refine xi_iload_n (pc' := 8) (x := 1) kc_90_7 rfl rfl ?_
          refine xi_aload_n (pc' := 9) (x := 0) kc_90_8 rfl rfl ?_
          refine xi_getfield (pc' := 12) (v := .ref 94) kc_90_9 rfl rfl rfl A3 rfl ?_
          refine xcps4 (xk_arr K.1 xD_94) (fun y34 A34 hy34 ry34 => ?_)
          refine xi_arraylength (pc' := 13) (n := 7) (v := 7) kc_90_12 rfl (xl_lenI (by decide) (by decide) A34 hy34) rfl ?_
          refine xi_cmf (pc' := 16) kc_90_13 rfl rfl ?_
          refine xi_aload_n (pc' := 17) (x := 0) kc_90_16 rfl rfl ?_
          refine xi_getfield (pc' := 20) (v := .ref 94) kc_90_17 rfl rfl rfl A3 rfl ?_
          refine xi_iload_n (pc' := 21) (x := 1) kc_90_20 rfl rfl ?_
          refine xi_dup2 (pc' := 22) kc_90_21 rfl ⟨rfl, rfl⟩ ?_
          refine xcps4 (xj_get hy34 ry34 (i := 1) (by decide) (by decide)) (fun v35 ev35 bv35 dv35 => ?_)
          refine xi_iaload (pc' := 23) (v := v35) kc_90_22 rfl A34 (by decide) rfl (xi_in (by decide) (by rw [hy34]; decide)) ev35 ?_
          refine xi_iconst (pc' := 24) (v := 1) kc_90_23 rfl rfl ?_
          refine xcps2 (α := Int32) ((v35 : Int32) + 1) (fun v36 ev36 => ?_)
          have rv36 := xc_rng v36
          refine xi_iadd (pc' := 25) (v := v36) kc_90_24 rfl ev36 ?_
          refine xcps4 (xj_set (v := v36) hy34 ry34 1 (by first | omega | decide) (by first | omega | decide)) (fun y37 s37 hy37 ry37 => ?_)
          refine xi_iastore (pc' := 26) (x' := y37) kc_90_25 rfl A34 rfl (xi_in (by decide) (by rw [hy34]; decide)) s37 (fun hh37 eh37 => ?_)
          have K38 := xk_pa K (xk_wa rfl) xD_94 hy37 ry37 eh37
          refine xi_iload_n (pc' := 27) (x := (-1)) kc_90_26 rfl rfl ?_
          refine xi_ireturn kc_90_27 mr_90 rfl ?_
          show xw J ov (d + 6) 137 (16, [(0, .ref 0), (1, .int x1), (2, .int x2)], [.int (-1)], hh37) _
          refine xi_ireturn kc_137_16 mr_137 rfl ?_
          have zcm1 : ((-1) : Int32).toInt = (-1) := by decide
          exact kk (-1) hh37 K38
        · refine xi_cmf (pc' := 10) kc_89_7 rfl (xc_ge_f (X := u21.toInt) (Y := 6) rfl (by decide) (by omega)) ?_
          refine xi_iconst (pc' := 11) (v := 1) kc_89_10 rfl rfl ?_
          refine xi_goto (pc' := 15) kc_89_11 rfl ?_
          refine xi_ireturn kc_89_15 mr_89 rfl ?_
          show xw J ov (d + 4) 105 (7, [(0, .ref pt20)], [.int 1], h) _
          refine xi_ireturn kc_105_7 mr_105 rfl ?_
          show xw J ov (d + 5) 108 (16, [(0, .ref 1), (1, .int x2)], [.int 1], h) _
          refine xi_iff (pc' := 19) kc_108_16 rfl rfl ?_
          refine xi_iconst (pc' := 20) (v := 1) kc_108_19 rfl rfl ?_
          refine xi_goto (pc' := 24) kc_108_20 rfl ?_
          refine xi_ireturn kc_108_24 mr_108 rfl ?_
          show xw J ov (d + 6) 137 (8, [(0, .ref 0), (1, .int x1), (2, .int x2)], [.int 1], h) _
          refine xi_ift (pc' := 17) kc_137_8 rfl rfl ?_
          refine xi_aload_n (pc' := 18) (x := 0) kc_137_17 rfl rfl ?_
          refine xi_getfield (pc' := 21) (v := .ref 66) kc_137_18 rfl rfl rfl A3 rfl ?_
          refine xi_iload_n (pc' := 22) (x := x1) kc_137_21 rfl rfl ?_
          refine xp_66 K.1 (fun u40 wl39 bu40 A41 => ?_)
          refine xi_virtual (mj := 138) (as := [.int x1]) (st1 := []) (lv0 := [(0, .ref 66), (1, .int x1)]) kc_137_22 rfl rfl rfl rfl rfl A41 (Nat.le_of_ble_eq_true rfl) (hJ _ _ _ _ (by decide)) (xm_le ml_138 rfl) rfl ?_
          refine xi_iload_n (pc' := 1) (x := x1) kc_138_0 rfl rfl ?_
          by_cases c42 : x1.toInt < 0
          · refine xi_ift (pc' := 16) kc_138_1 rfl (xc_lt_t (X := x1.toInt) (Y := 0) rfl (by decide) (by omega)) ?_
            refine xi_iconst (pc' := 17) (v := 0) kc_138_16 rfl rfl ?_
            refine xi_ireturn kc_138_17 mr_138 rfl ?_
            show xw J ov (d + 6) 137 (25, [(0, .ref 0), (1, .int x1), (2, .int x2)], [.int 0], h) _
            refine xi_iff (pc' := 28) kc_137_25 rfl rfl ?_
            refine xi_aload_n (pc' := 29) (x := 0) kc_137_28 rfl rfl ?_
            refine xi_bipush (pc' := 31) (v := (-2)) kc_137_29 rfl rfl ?_
            refine xi_virtual (mj := 90) (as := [.int (-2)]) (st1 := []) (lv0 := [(0, .ref 0), (1, .int (-2))]) kc_137_31 rfl rfl rfl rfl rfl A3 (Nat.le_of_ble_eq_true rfl) (hJ _ _ _ _ (by decide)) (xm_le ml_90 rfl) rfl ?_
            refine xi_iload_n (pc' := 1) (x := (-2)) kc_90_0 rfl rfl ?_
            refine xi_ineg (pc' := 2) (v := 2) kc_90_1 rfl rfl ?_
            refine xi_istore_n (pc' := 3) (lv' := [(2, .int 2), (0, .ref 0), (1, .int (-2))]) kc_90_2 rfl rfl (xm_lt ml_90 rfl) ?_
            refine xi_iload_n (pc' := 4) (x := 2) kc_90_3 rfl rfl ?_
            refine xi_iff (pc' := 7) kc_90_4 rfl rfl ?_
            refine xi_iload_n (pc' := 8) (x := 2) kc_90_7 rfl rfl ?_
            refine xi_aload_n (pc' := 9) (x := 0) kc_90_8 rfl rfl ?_
            refine xi_getfield (pc' := 12) (v := .ref 94) kc_90_9 rfl rfl rfl A3 rfl ?_
            refine xcps4 (xk_arr K.1 xD_94) (fun y43 A43 hy43 ry43 => ?_)
            refine xi_arraylength (pc' := 13) (n := 7) (v := 7) kc_90_12 rfl (xl_lenI (by decide) (by decide) A43 hy43) rfl ?_
            refine xi_cmf (pc' := 16) kc_90_13 rfl rfl ?_
            refine xi_aload_n (pc' := 17) (x := 0) kc_90_16 rfl rfl ?_
            refine xi_getfield (pc' := 20) (v := .ref 94) kc_90_17 rfl rfl rfl A3 rfl ?_
            refine xi_iload_n (pc' := 21) (x := 2) kc_90_20 rfl rfl ?_
            refine xi_dup2 (pc' := 22) kc_90_21 rfl ⟨rfl, rfl⟩ ?_
            refine xcps4 (xj_get hy43 ry43 (i := 2) (by decide) (by decide)) (fun v44 ev44 bv44 dv44 => ?_)
            refine xi_iaload (pc' := 23) (v := v44) kc_90_22 rfl A43 (by decide) rfl (xi_in (by decide) (by rw [hy43]; decide)) ev44 ?_
            refine xi_iconst (pc' := 24) (v := 1) kc_90_23 rfl rfl ?_
            refine xcps2 (α := Int32) ((v44 : Int32) + 1) (fun v45 ev45 => ?_)
            have rv45 := xc_rng v45
            refine xi_iadd (pc' := 25) (v := v45) kc_90_24 rfl ev45 ?_
            refine xcps4 (xj_set (v := v45) hy43 ry43 2 (by first | omega | decide) (by first | omega | decide)) (fun y46 s46 hy46 ry46 => ?_)
            refine xi_iastore (pc' := 26) (x' := y46) kc_90_25 rfl A43 rfl (xi_in (by decide) (by rw [hy43]; decide)) s46 (fun hh46 eh46 => ?_)
            have K47 := xk_pa K (xk_wa rfl) xD_94 hy46 ry46 eh46
            refine xi_iload_n (pc' := 27) (x := (-2)) kc_90_26 rfl rfl ?_
            refine xi_ireturn kc_90_27 mr_90 rfl ?_
            show xw J ov (d + 6) 137 (34, [(0, .ref 0), (1, .int x1), (2, .int x2)], [.int (-2)], hh46) _
            refine xi_ireturn kc_137_34 mr_137 rfl ?_
            have zcm2 : ((-2) : Int32).toInt = (-2) := by decide
            exact kk (-2) hh46 K47
          · refine xi_iff (pc' := 4) kc_138_1 rfl (xc_lt_f (X := x1.toInt) (Y := 0) rfl (by decide) (by omega)) ?_
            refine xi_iload_n (pc' := 5) (x := x1) kc_138_4 rfl rfl ?_
            refine xi_aload_n (pc' := 6) (x := 66) kc_138_5 rfl rfl ?_
            refine xi_virtual (mj := 139) (as := []) (st1 := [.int x1]) (lv0 := [(0, .ref 66)]) kc_138_6 rfl rfl rfl rfl rfl A41 (Nat.le_of_ble_eq_true rfl) (hJ _ _ _ _ (by decide)) (xm_le ml_139 rfl) rfl ?_
            refine xi_iconst (pc' := 1) (v := 1) kc_139_0 rfl rfl ?_
            refine xi_aload_n (pc' := 2) (x := 66) kc_139_1 rfl rfl ?_
            refine xi_getfield (pc' := 5) (v := .ref 1) kc_139_2 rfl rfl rfl A41 rfl ?_
            refine xi_virtual (mj := 140) (as := []) (st1 := [.int 1]) (lv0 := [(0, .ref 1)]) kc_139_5 rfl rfl rfl rfl rfl A6 (Nat.le_of_ble_eq_true rfl) (hJ _ _ _ _ (by decide)) (xm_le ml_140 rfl) rfl ?_
            refine xi_aload_n (pc' := 1) (x := 1) kc_140_0 rfl rfl ?_
            refine xi_getfield (pc' := 4) (v := .int u4) kc_140_1 rfl rfl rfl A6 rfl ?_
            refine xi_bipush (pc' := 6) (v := 6) kc_140_4 rfl rfl ?_
            by_cases c48 : 6 ≤ u4.toInt
            · refine xi_cmt (pc' := 16) kc_140_6 rfl (xc_ge_t (X := u4.toInt) (Y := 6) rfl (by decide) (by omega)) ?_
              refine xi_bipush (pc' := 18) (v := 6) kc_140_16 rfl rfl ?_
              refine xi_ireturn kc_140_18 mr_140 rfl ?_
              show xw J ov (d + 4) 139 (8, [(0, .ref 66)], [.int 6, .int 1], h) _
              refine xi_ishl (pc' := 9) (v := 64) kc_139_8 rfl rfl ?_
              refine xi_ireturn kc_139_9 mr_139 rfl ?_
              show xw J ov (d + 5) 138 (9, [(0, .ref 66), (1, .int x1)], [.int 64, .int x1], h) _
              by_cases c49 : 64 ≤ x1.toInt
              · refine xi_cmt (pc' := 16) kc_138_9 rfl (xc_ge_t (X := x1.toInt) (Y := 64) rfl (by decide) (by omega)) ?_
                refine xi_iconst (pc' := 17) (v := 0) kc_138_16 rfl rfl ?_
                refine xi_ireturn kc_138_17 mr_138 rfl ?_
                show xw J ov (d + 6) 137 (25, [(0, .ref 0), (1, .int x1), (2, .int x2)], [.int 0], h) _
                refine xi_iff (pc' := 28) kc_137_25 rfl rfl ?_
                refine xi_aload_n (pc' := 29) (x := 0) kc_137_28 rfl rfl ?_
                refine xi_bipush (pc' := 31) (v := (-2)) kc_137_29 rfl rfl ?_
                refine xi_virtual (mj := 90) (as := [.int (-2)]) (st1 := []) (lv0 := [(0, .ref 0), (1, .int (-2))]) kc_137_31 rfl rfl rfl rfl rfl A3 (Nat.le_of_ble_eq_true rfl) (hJ _ _ _ _ (by decide)) (xm_le ml_90 rfl) rfl ?_
                refine xi_iload_n (pc' := 1) (x := (-2)) kc_90_0 rfl rfl ?_
                refine xi_ineg (pc' := 2) (v := 2) kc_90_1 rfl rfl ?_
                refine xi_istore_n (pc' := 3) (lv' := [(2, .int 2), (0, .ref 0), (1, .int (-2))]) kc_90_2 rfl rfl (xm_lt ml_90 rfl) ?_
                refine xi_iload_n (pc' := 4) (x := 2) kc_90_3 rfl rfl ?_
                refine xi_iff (pc' := 7) kc_90_4 rfl rfl ?_
                refine xi_iload_n (pc' := 8) (x := 2) kc_90_7 rfl rfl ?_
                refine xi_aload_n (pc' := 9) (x := 0) kc_90_8 rfl rfl ?_
                refine xi_getfield (pc' := 12) (v := .ref 94) kc_90_9 rfl rfl rfl A3 rfl ?_
                refine xcps4 (xk_arr K.1 xD_94) (fun y50 A50 hy50 ry50 => ?_)
                refine xi_arraylength (pc' := 13) (n := 7) (v := 7) kc_90_12 rfl (xl_lenI (by decide) (by decide) A50 hy50) rfl ?_
                refine xi_cmf (pc' := 16) kc_90_13 rfl rfl ?_
                refine xi_aload_n (pc' := 17) (x := 0) kc_90_16 rfl rfl ?_
                refine xi_getfield (pc' := 20) (v := .ref 94) kc_90_17 rfl rfl rfl A3 rfl ?_
                refine xi_iload_n (pc' := 21) (x := 2) kc_90_20 rfl rfl ?_
                refine xi_dup2 (pc' := 22) kc_90_21 rfl ⟨rfl, rfl⟩ ?_
                refine xcps4 (xj_get hy50 ry50 (i := 2) (by decide) (by decide)) (fun v51 ev51 bv51 dv51 => ?_)
                refine xi_iaload (pc' := 23) (v := v51) kc_90_22 rfl A50 (by decide) rfl (xi_in (by decide) (by rw [hy50]; decide)) ev51 ?_
                refine xi_iconst (pc' := 24) (v := 1) kc_90_23 rfl rfl ?_
                refine xcps2 (α := Int32) ((v51 : Int32) + 1) (fun v52 ev52 => ?_)
                have rv52 := xc_rng v52
                refine xi_iadd (pc' := 25) (v := v52) kc_90_24 rfl ev52 ?_
                refine xcps4 (xj_set (v := v52) hy50 ry50 2 (by first | omega | decide) (by first | omega | decide)) (fun y53 s53 hy53 ry53 => ?_)
                refine xi_iastore (pc' := 26) (x' := y53) kc_90_25 rfl A50 rfl (xi_in (by decide) (by rw [hy50]; decide)) s53 (fun hh53 eh53 => ?_)
                have K54 := xk_pa K (xk_wa rfl) xD_94 hy53 ry53 eh53
                refine xi_iload_n (pc' := 27) (x := (-2)) kc_90_26 rfl rfl ?_
                refine xi_ireturn kc_90_27 mr_90 rfl ?_
                show xw J ov (d + 6) 137 (34, [(0, .ref 0), (1, .int x1), (2, .int x2)], [.int (-2)], hh53) _
                refine xi_ireturn kc_137_34 mr_137 rfl ?_
                have zcm2 : ((-2) : Int32).toInt = (-2) := by decide
                exact kk (-2) hh53 K54
              · refine xi_cmf (pc' := 12) kc_138_9 rfl (xc_ge_f (X := x1.toInt) (Y := 64) rfl (by decide) (by omega)) ?_
                refine xi_iconst (pc' := 13) (v := 1) kc_138_12 rfl rfl ?_
                refine xi_goto (pc' := 17) kc_138_13 rfl ?_
                refine xi_ireturn kc_138_17 mr_138 rfl ?_
                show xw J ov (d + 6) 137 (25, [(0, .ref 0), (1, .int x1), (2, .int x2)], [.int 1], h) _
                refine xi_ift (pc' := 35) kc_137_25 rfl rfl ?_
                refine xi_aload_n (pc' := 36) (x := 0) kc_137_35 rfl rfl ?_
                refine xi_getfield (pc' := 39) (v := .ref 66) kc_137_36 rfl rfl rfl A3 rfl ?_
                refine xi_iload_n (pc' := 40) (x := x1) kc_137_39 rfl rfl ?_
                refine xi_iload_n (pc' := 41) (x := x2) kc_137_40 rfl rfl ?_
                refine xi_aload_n (pc' := 42) (x := 0) kc_137_41 rfl rfl ?_
                refine xi_getfield (pc' := 45) (v := .int u2) kc_137_42 rfl rfl rfl A3 rfl ?_
                refine xi_virtual (mj := 141) (as := [.int x1, .int x2, .int u2]) (st1 := []) (lv0 := [(0, .ref 66), (1, .int x1), (2, .int x2), (3, .int u2)]) kc_137_45 rfl rfl rfl rfl rfl A41 (Nat.le_of_ble_eq_true rfl) (hJ _ _ _ _ (by decide)) (xm_le ml_141 rfl) rfl ?_
                refine mt_141_0 hJ hov1 hov2 (d := d) (x1 := x1) (x2 := x2) (x3 := u2) K.1 (by first | omega | decide) (by first | omega | decide) (by first | omega | decide) (fun r55 hh56 K57 => ?_)
                have br55 := xc_rng r55
                have K58 := xk_tr K K57 rfl
                refine xp_0 K58.1 (fun u59 u60 bu59 bu60 A61 => ?_)
                have e62 : u2 = u60 := xk_eqi (q := 9) K57 rfl A3 A61 rfl rfl
                subst e62
                refine xp_1 K58.1 (fun u63 u64 bu63 bu64 A65 => ?_)
                have e66 : u4 = u63 := xk_eqi (q := 5) K57 rfl A6 A65 rfl rfl
                subst e66
                show xw J ov (d + 6) 137 (48, [(0, .ref 0), (1, .int x1), (2, .int x2)], [.int r55], hh56) _
                refine xi_ireturn kc_137_48 mr_137 rfl ?_
                exact kk r55 hh56 K58
            · refine xi_cmf (pc' := 9) kc_140_6 rfl (xc_ge_f (X := u4.toInt) (Y := 6) rfl (by decide) (by omega)) ?_
              refine xi_aload_n (pc' := 10) (x := 1) kc_140_9 rfl rfl ?_
              refine xi_getfield (pc' := 13) (v := .int u4) kc_140_10 rfl rfl rfl A6 rfl ?_
              refine xi_goto (pc' := 18) kc_140_13 rfl ?_
              refine xi_ireturn kc_140_18 mr_140 rfl ?_
              show xw J ov (d + 4) 139 (8, [(0, .ref 66)], [.int u4, .int 1], h) _
              refine xcps2 (α := Int32) ((1 : Int32) <<< (u4 &&& 31)) (fun v67 ev67 => ?_)
              have rv67 := xc_rng v67
              have bv67 : 1 ≤ v67.toInt ∧ v67.toInt ≤ 64 := by rw [← ev67]; exact xj_shl6 (by omega) (by omega)
              refine xi_ishl (pc' := 9) (v := v67) kc_139_8 rfl ev67 ?_
              refine xi_ireturn kc_139_9 mr_139 rfl ?_
              show xw J ov (d + 5) 138 (9, [(0, .ref 66), (1, .int x1)], [.int v67, .int x1], h) _
              by_cases c68 : v67.toInt ≤ x1.toInt
              · refine xi_cmt (pc' := 16) kc_138_9 rfl (xc_ge_t (X := x1.toInt) (Y := v67.toInt) rfl rfl (by omega)) ?_
                refine xi_iconst (pc' := 17) (v := 0) kc_138_16 rfl rfl ?_
                refine xi_ireturn kc_138_17 mr_138 rfl ?_
                show xw J ov (d + 6) 137 (25, [(0, .ref 0), (1, .int x1), (2, .int x2)], [.int 0], h) _
                refine xi_iff (pc' := 28) kc_137_25 rfl rfl ?_
                refine xi_aload_n (pc' := 29) (x := 0) kc_137_28 rfl rfl ?_
                refine xi_bipush (pc' := 31) (v := (-2)) kc_137_29 rfl rfl ?_
                refine xi_virtual (mj := 90) (as := [.int (-2)]) (st1 := []) (lv0 := [(0, .ref 0), (1, .int (-2))]) kc_137_31 rfl rfl rfl rfl rfl A3 (Nat.le_of_ble_eq_true rfl) (hJ _ _ _ _ (by decide)) (xm_le ml_90 rfl) rfl ?_
                refine xi_iload_n (pc' := 1) (x := (-2)) kc_90_0 rfl rfl ?_
                refine xi_ineg (pc' := 2) (v := 2) kc_90_1 rfl rfl ?_
                refine xi_istore_n (pc' := 3) (lv' := [(2, .int 2), (0, .ref 0), (1, .int (-2))]) kc_90_2 rfl rfl (xm_lt ml_90 rfl) ?_
                refine xi_iload_n (pc' := 4) (x := 2) kc_90_3 rfl rfl ?_
                refine xi_iff (pc' := 7) kc_90_4 rfl rfl ?_
                refine xi_iload_n (pc' := 8) (x := 2) kc_90_7 rfl rfl ?_
                refine xi_aload_n (pc' := 9) (x := 0) kc_90_8 rfl rfl ?_
                refine xi_getfield (pc' := 12) (v := .ref 94) kc_90_9 rfl rfl rfl A3 rfl ?_
                refine xcps4 (xk_arr K.1 xD_94) (fun y69 A69 hy69 ry69 => ?_)
                refine xi_arraylength (pc' := 13) (n := 7) (v := 7) kc_90_12 rfl (xl_lenI (by decide) (by decide) A69 hy69) rfl ?_
                refine xi_cmf (pc' := 16) kc_90_13 rfl rfl ?_
                refine xi_aload_n (pc' := 17) (x := 0) kc_90_16 rfl rfl ?_
                refine xi_getfield (pc' := 20) (v := .ref 94) kc_90_17 rfl rfl rfl A3 rfl ?_
                refine xi_iload_n (pc' := 21) (x := 2) kc_90_20 rfl rfl ?_
                refine xi_dup2 (pc' := 22) kc_90_21 rfl ⟨rfl, rfl⟩ ?_
                refine xcps4 (xj_get hy69 ry69 (i := 2) (by decide) (by decide)) (fun v70 ev70 bv70 dv70 => ?_)
                refine xi_iaload (pc' := 23) (v := v70) kc_90_22 rfl A69 (by decide) rfl (xi_in (by decide) (by rw [hy69]; decide)) ev70 ?_
                refine xi_iconst (pc' := 24) (v := 1) kc_90_23 rfl rfl ?_
                refine xcps2 (α := Int32) ((v70 : Int32) + 1) (fun v71 ev71 => ?_)
                have rv71 := xc_rng v71
                refine xi_iadd (pc' := 25) (v := v71) kc_90_24 rfl ev71 ?_
                refine xcps4 (xj_set (v := v71) hy69 ry69 2 (by first | omega | decide) (by first | omega | decide)) (fun y72 s72 hy72 ry72 => ?_)
                refine xi_iastore (pc' := 26) (x' := y72) kc_90_25 rfl A69 rfl (xi_in (by decide) (by rw [hy69]; decide)) s72 (fun hh72 eh72 => ?_)
                have K73 := xk_pa K (xk_wa rfl) xD_94 hy72 ry72 eh72
                refine xi_iload_n (pc' := 27) (x := (-2)) kc_90_26 rfl rfl ?_
                refine xi_ireturn kc_90_27 mr_90 rfl ?_
                show xw J ov (d + 6) 137 (34, [(0, .ref 0), (1, .int x1), (2, .int x2)], [.int (-2)], hh72) _
                refine xi_ireturn kc_137_34 mr_137 rfl ?_
                have zcm2 : ((-2) : Int32).toInt = (-2) := by decide
                exact kk (-2) hh72 K73
              · refine xi_cmf (pc' := 12) kc_138_9 rfl (xc_ge_f (X := x1.toInt) (Y := v67.toInt) rfl rfl (by omega)) ?_
                refine xi_iconst (pc' := 13) (v := 1) kc_138_12 rfl rfl ?_
                refine xi_goto (pc' := 17) kc_138_13 rfl ?_
                refine xi_ireturn kc_138_17 mr_138 rfl ?_
                show xw J ov (d + 6) 137 (25, [(0, .ref 0), (1, .int x1), (2, .int x2)], [.int 1], h) _
                refine xi_ift (pc' := 35) kc_137_25 rfl rfl ?_
                refine xi_aload_n (pc' := 36) (x := 0) kc_137_35 rfl rfl ?_
                refine xi_getfield (pc' := 39) (v := .ref 66) kc_137_36 rfl rfl rfl A3 rfl ?_
                refine xi_iload_n (pc' := 40) (x := x1) kc_137_39 rfl rfl ?_
                refine xi_iload_n (pc' := 41) (x := x2) kc_137_40 rfl rfl ?_
                refine xi_aload_n (pc' := 42) (x := 0) kc_137_41 rfl rfl ?_
                refine xi_getfield (pc' := 45) (v := .int u2) kc_137_42 rfl rfl rfl A3 rfl ?_
                refine xi_virtual (mj := 141) (as := [.int x1, .int x2, .int u2]) (st1 := []) (lv0 := [(0, .ref 66), (1, .int x1), (2, .int x2), (3, .int u2)]) kc_137_45 rfl rfl rfl rfl rfl A41 (Nat.le_of_ble_eq_true rfl) (hJ _ _ _ _ (by decide)) (xm_le ml_141 rfl) rfl ?_
                refine mt_141_0 hJ hov1 hov2 (d := d) (x1 := x1) (x2 := x2) (x3 := u2) K.1 (by first | omega | decide) (by first | omega | decide) (by first | omega | decide) (fun r74 hh75 K76 => ?_)
                have br74 := xc_rng r74
                have K77 := xk_tr K K76 rfl
                refine xp_0 K77.1 (fun u78 u79 bu78 bu79 A80 => ?_)
                have e81 : u2 = u79 := xk_eqi (q := 9) K76 rfl A3 A80 rfl rfl
                subst e81
                refine xp_1 K77.1 (fun u82 u83 bu82 bu83 A84 => ?_)
                have e85 : u4 = u82 := xk_eqi (q := 5) K76 rfl A6 A84 rfl rfl
                subst e85
                show xw J ov (d + 6) 137 (48, [(0, .ref 0), (1, .int x1), (2, .int x2)], [.int r74], hh75) _
                refine xi_ireturn kc_137_48 mr_137 rfl ?_
                exact kk r74 hh75 K77
set_option maxHeartbeats 4000000 in
theorem mt_14_0 {J : xe_J} {ov : List (List Int32)} (hJ : ∀ d mj as h, mj ≠ xe_loff → J d mj as h = none) (hov1 : ov[1]? = some [10, 0, 0, 0, 0, 0]) (hov2 : ov[2]? = some [99, 30, 50, 50, 1, 99999]) {d : Nat} {Q : Option Value → xe_H → Prop} {h : xe_H} {x1 : Int32} {x2 : Int32} {x3 : Int32} (T : xt h) (b1 : (0 ≤ x1.toInt ∧ x1.toInt ≤ 5)) (b2 : (0 ≤ x2.toInt ∧ x2.toInt ≤ 5)) (kk : (∀ h' : xe_H, xk [(0, 9), (115, 1), (83, 0), (29, 0), (31, 0), (33, 0), (35, 0), (37, 0), (39, 0), (41, 0), (43, 0), (45, 0), (47, 0), (49, 0), (51, 0), (125, 0), (29, 2), (31, 2), (33, 2), (35, 2), (37, 2), (39, 2), (41, 2), (43, 2), (45, 2), (47, 2), (49, 2), (51, 2), (127, 0), (1, 5), (115, 23)] h h' → Q none h')) : xw J ov (d + 1) 14 (0, [(0, .ref 115), (1, .int x1), (2, .int x2), (3, .int x3)], [], h) Q := by
  have K : xk [(0, 9), (115, 1), (83, 0), (29, 0), (31, 0), (33, 0), (35, 0), (37, 0), (39, 0), (41, 0), (43, 0), (45, 0), (47, 0), (49, 0), (51, 0), (125, 0), (29, 2), (31, 2), (33, 2), (35, 2), (37, 2), (39, 2), (41, 2), (43, 2), (45, 2), (47, 2), (49, 2), (51, 2), (127, 0), (1, 5), (115, 23)] h h := xk_re T
  have rx3 := xc_rng x3
  refine xi_aload_n (pc' := 1) (x := 115) kc_14_0 rfl rfl ?_
  refine xp_115 K.1 (fun u1 u2 u3 u4 u5 u6 u7 u8 u9 u10 u11 u12 u13 bu1 bu2 bu3 bu4 bu5 bu6 bu7 bu8 bu9 bu10 bu11 bu12 bu13 A14 => ?_)
  refine xi_getfield (pc' := 4) (v := .ref 116) kc_14_1 rfl rfl rfl A14 rfl ?_
  refine xi_iload_n (pc' := 5) (x := x1) kc_14_4 rfl rfl ?_
  refine xi_iload_n (pc' := 6) (x := x2) kc_14_5 rfl rfl ?_
  by_cases c15 : x2.toInt = 0
  · refine xi_iff (pc' := 9) kc_14_6 rfl (xc_ne_f (X := x2.toInt) (Y := 0) rfl (by decide) (by omega)) ?_
    refine xi_iload_n (pc' := 10) (x := x3) kc_14_9 rfl rfl ?_
    refine xi_goto (pc' := 19) kc_14_10 rfl ?_
    refine xcps4 (xk_arr K.1 xD_116) (fun y16 A16 hy16 ry16 => ?_)
    refine xcps4 (xj_set (v := x3) hy16 ry16 x1 (by first | omega | decide) (by first | omega | decide)) (fun y17 s17 hy17 ry17 => ?_)
    refine xi_iastore (pc' := 20) (x' := y17) kc_14_19 rfl A16 rfl (xi_in (by omega) (by rw [hy16]; omega)) s17 (fun hh17 eh17 => ?_)
    have K18 := xk_pa K (xk_wa rfl) xD_116 hy17 ry17 eh17
    refine xi_aload_n (pc' := 21) (x := 115) kc_14_20 rfl rfl ?_
    have A19 := ((eh17.2.1 115 (by decide)).trans A14)
    refine xi_getfield (pc' := 24) (v := .ref 117) kc_14_21 rfl rfl rfl A19 rfl ?_
    refine xi_iload_n (pc' := 25) (x := x1) kc_14_24 rfl rfl ?_
    refine xi_iload_n (pc' := 26) (x := x2) kc_14_25 rfl rfl ?_
    refine xi_iconst (pc' := 27) (v := 1) kc_14_26 rfl rfl ?_
    refine xi_cmt (pc' := 34) kc_14_27 rfl (xc_ne_t (X := x2.toInt) (Y := 1) rfl (by decide) (by omega)) ?_
    refine xi_aload_n (pc' := 35) (x := 115) kc_14_34 rfl rfl ?_
    refine xi_getfield (pc' := 38) (v := .ref 117) kc_14_35 rfl rfl rfl A19 rfl ?_
    refine xi_iload_n (pc' := 39) (x := x1) kc_14_38 rfl rfl ?_
    refine xcps4 (xk_arr K18.1 xD_117) (fun y20 A20 hy20 ry20 => ?_)
    refine xcps4 (xj_get hy20 ry20 (i := x1) (by omega) (by omega)) (fun v21 ev21 bv21 dv21 => ?_)
    refine xi_iaload (pc' := 40) (v := v21) kc_14_39 rfl A20 (by decide) rfl (xi_in (by omega) (by rw [hy20]; omega)) ev21 ?_
    refine xcps4 (xj_set (v := v21) hy20 ry20 x1 (by first | omega | decide) (by first | omega | decide)) (fun y22 s22 hy22 ry22 => ?_)
    refine xi_iastore (pc' := 41) (x' := y22) kc_14_40 rfl A20 rfl (xi_in (by omega) (by rw [hy20]; omega)) s22 (fun hh22 eh22 => ?_)
    have K23 := xk_pa K18 (xk_wa rfl) xD_117 hy22 ry22 eh22
    refine xi_aload_n (pc' := 42) (x := 115) kc_14_41 rfl rfl ?_
    have A24 := ((eh22.2.1 115 (by decide)).trans A19)
    refine xi_getfield (pc' := 45) (v := .ref 118) kc_14_42 rfl rfl rfl A24 rfl ?_
    refine xi_iload_n (pc' := 46) (x := x1) kc_14_45 rfl rfl ?_
    refine xi_iload_n (pc' := 47) (x := x2) kc_14_46 rfl rfl ?_
    refine xi_iconst (pc' := 48) (v := 2) kc_14_47 rfl rfl ?_
    refine xi_cmt (pc' := 55) kc_14_48 rfl (xc_ne_t (X := x2.toInt) (Y := 2) rfl (by decide) (by omega)) ?_
    refine xi_aload_n (pc' := 56) (x := 115) kc_14_55 rfl rfl ?_
    refine xi_getfield (pc' := 59) (v := .ref 118) kc_14_56 rfl rfl rfl A24 rfl ?_
    refine xi_iload_n (pc' := 60) (x := x1) kc_14_59 rfl rfl ?_
    refine xcps4 (xk_arr K23.1 xD_118) (fun y25 A25 hy25 ry25 => ?_)
    refine xcps4 (xj_get hy25 ry25 (i := x1) (by omega) (by omega)) (fun v26 ev26 bv26 dv26 => ?_)
    refine xi_iaload (pc' := 61) (v := v26) kc_14_60 rfl A25 (by decide) rfl (xi_in (by omega) (by rw [hy25]; omega)) ev26 ?_
    refine xcps4 (xj_set (v := v26) hy25 ry25 x1 (by first | omega | decide) (by first | omega | decide)) (fun y27 s27 hy27 ry27 => ?_)
    refine xi_iastore (pc' := 62) (x' := y27) kc_14_61 rfl A25 rfl (xi_in (by omega) (by rw [hy25]; omega)) s27 (fun hh27 eh27 => ?_)
    have K28 := xk_pa K23 (xk_wa rfl) xD_118 hy27 ry27 eh27
    refine xi_aload_n (pc' := 63) (x := 115) kc_14_62 rfl rfl ?_
    have A29 := ((eh27.2.1 115 (by decide)).trans A24)
    refine xi_getfield (pc' := 66) (v := .ref 119) kc_14_63 rfl rfl rfl A29 rfl ?_
    refine xi_iload_n (pc' := 67) (x := x1) kc_14_66 rfl rfl ?_
    refine xi_iload_n (pc' := 68) (x := x2) kc_14_67 rfl rfl ?_
    refine xi_iconst (pc' := 69) (v := 3) kc_14_68 rfl rfl ?_
    refine xi_cmt (pc' := 76) kc_14_69 rfl (xc_ne_t (X := x2.toInt) (Y := 3) rfl (by decide) (by omega)) ?_
    refine xi_aload_n (pc' := 77) (x := 115) kc_14_76 rfl rfl ?_
    refine xi_getfield (pc' := 80) (v := .ref 119) kc_14_77 rfl rfl rfl A29 rfl ?_
    refine xi_iload_n (pc' := 81) (x := x1) kc_14_80 rfl rfl ?_
    refine xcps4 (xk_arr K28.1 xD_119) (fun y30 A30 hy30 ry30 => ?_)
    refine xcps4 (xj_get hy30 ry30 (i := x1) (by omega) (by omega)) (fun v31 ev31 bv31 dv31 => ?_)
    refine xi_iaload (pc' := 82) (v := v31) kc_14_81 rfl A30 (by decide) rfl (xi_in (by omega) (by rw [hy30]; omega)) ev31 ?_
    refine xcps4 (xj_set (v := v31) hy30 ry30 x1 (by first | omega | decide) (by first | omega | decide)) (fun y32 s32 hy32 ry32 => ?_)
    refine xi_iastore (pc' := 83) (x' := y32) kc_14_82 rfl A30 rfl (xi_in (by omega) (by rw [hy30]; omega)) s32 (fun hh32 eh32 => ?_)
    have K33 := xk_pa K28 (xk_wa rfl) xD_119 hy32 ry32 eh32
    refine xi_aload_n (pc' := 84) (x := 115) kc_14_83 rfl rfl ?_
    have A34 := ((eh32.2.1 115 (by decide)).trans A29)
    refine xi_getfield (pc' := 87) (v := .ref 120) kc_14_84 rfl rfl rfl A34 rfl ?_
    refine xi_iload_n (pc' := 88) (x := x1) kc_14_87 rfl rfl ?_
    refine xi_iload_n (pc' := 89) (x := x2) kc_14_88 rfl rfl ?_
    refine xi_iconst (pc' := 90) (v := 4) kc_14_89 rfl rfl ?_
    refine xi_cmt (pc' := 97) kc_14_90 rfl (xc_ne_t (X := x2.toInt) (Y := 4) rfl (by decide) (by omega)) ?_
    refine xi_aload_n (pc' := 98) (x := 115) kc_14_97 rfl rfl ?_
    refine xi_getfield (pc' := 101) (v := .ref 120) kc_14_98 rfl rfl rfl A34 rfl ?_
    refine xi_iload_n (pc' := 102) (x := x1) kc_14_101 rfl rfl ?_
    refine xcps4 (xk_arr K33.1 xD_120) (fun y35 A35 hy35 ry35 => ?_)
    refine xcps4 (xj_get hy35 ry35 (i := x1) (by omega) (by omega)) (fun v36 ev36 bv36 dv36 => ?_)
    refine xi_iaload (pc' := 103) (v := v36) kc_14_102 rfl A35 (by decide) rfl (xi_in (by omega) (by rw [hy35]; omega)) ev36 ?_
    refine xcps4 (xj_set (v := v36) hy35 ry35 x1 (by first | omega | decide) (by first | omega | decide)) (fun y37 s37 hy37 ry37 => ?_)
    refine xi_iastore (pc' := 104) (x' := y37) kc_14_103 rfl A35 rfl (xi_in (by omega) (by rw [hy35]; omega)) s37 (fun hh37 eh37 => ?_)
    have K38 := xk_pa K33 (xk_wa rfl) xD_120 hy37 ry37 eh37
    refine xi_aload_n (pc' := 105) (x := 115) kc_14_104 rfl rfl ?_
    have A39 := ((eh37.2.1 115 (by decide)).trans A34)
    refine xi_getfield (pc' := 108) (v := .ref 121) kc_14_105 rfl rfl rfl A39 rfl ?_
    refine xi_iload_n (pc' := 109) (x := x1) kc_14_108 rfl rfl ?_
    refine xi_iload_n (pc' := 110) (x := x2) kc_14_109 rfl rfl ?_
    refine xi_iconst (pc' := 111) (v := 5) kc_14_110 rfl rfl ?_
    refine xi_cmt (pc' := 118) kc_14_111 rfl (xc_ne_t (X := x2.toInt) (Y := 5) rfl (by decide) (by omega)) ?_
    refine xi_aload_n (pc' := 119) (x := 115) kc_14_118 rfl rfl ?_
    refine xi_getfield (pc' := 122) (v := .ref 121) kc_14_119 rfl rfl rfl A39 rfl ?_
    refine xi_iload_n (pc' := 123) (x := x1) kc_14_122 rfl rfl ?_
    refine xcps4 (xk_arr K38.1 xD_121) (fun y40 A40 hy40 ry40 => ?_)
    refine xcps4 (xj_get hy40 ry40 (i := x1) (by omega) (by omega)) (fun v41 ev41 bv41 dv41 => ?_)
    refine xi_iaload (pc' := 124) (v := v41) kc_14_123 rfl A40 (by decide) rfl (xi_in (by omega) (by rw [hy40]; omega)) ev41 ?_
    refine xcps4 (xj_set (v := v41) hy40 ry40 x1 (by first | omega | decide) (by first | omega | decide)) (fun y42 s42 hy42 ry42 => ?_)
    refine xi_iastore (pc' := 125) (x' := y42) kc_14_124 rfl A40 rfl (xi_in (by omega) (by rw [hy40]; omega)) s42 (fun hh42 eh42 => ?_)
    have K43 := xk_pa K38 (xk_wa rfl) xD_121 hy42 ry42 eh42
    refine xi_aload_n (pc' := 126) (x := 115) kc_14_125 rfl rfl ?_
    refine xi_iconst (pc' := 127) (v := 0) kc_14_126 rfl rfl ?_
    have A44 := ((eh42.2.1 115 (by decide)).trans A39)
    refine xi_putfield (pc' := 130) (fs' := [.int u1, .int u2, .ref 116, .ref 117, .ref 118, .ref 119, .ref 120, .ref 121, .ref 122, .ref 123, .ref 124, .ref 125, .ref 126, .ref 127, .ref 128, .ref 129, .int u3, .ref 130, .int u4, .ref 131, .ref 132, .ref 133, .ref 134, .int u5, .ref 135, .ref 136, .ref 137, .ref 138, .ref 139, .ref 140, .ref 141, .ref 142, .int u6, .int u7, .int u8, .ref 143, .ref 144, .ref 145, .ref 146, .ref 147, .ref 148, .int 0, .ref 149, .ref 150, .ref 151, .int u10, .ref 152, .ref 153, .ref 154, .ref 155, .ref 156, .ref 157, .ref 158, .ref 159, .int u11, .ref 160, .int u12, .ref 161, .ref 162, .ref 163, .ref 164, .int u13, .ref 165, .ref 166]) kc_14_127 rfl rfl rfl A44 rfl rfl rfl (Nat.le_of_ble_eq_true rfl) rfl (fun hh46 eh45 => ?_)
    have K47 := xk_pf (k := 41) (v := 0) K43 (xk_wf rfl) xD_115 A44 rfl (by first | omega | decide) (by first | omega | decide) eh45 rfl
    refine xi_return kc_14_130 mr_14 ?_
    exact kk hh46 K47
  · refine xi_ift (pc' := 13) kc_14_6 rfl (xc_ne_t (X := x2.toInt) (Y := 0) rfl (by decide) (by omega)) ?_
    refine xi_aload_n (pc' := 14) (x := 115) kc_14_13 rfl rfl ?_
    refine xi_getfield (pc' := 17) (v := .ref 116) kc_14_14 rfl rfl rfl A14 rfl ?_
    refine xi_iload_n (pc' := 18) (x := x1) kc_14_17 rfl rfl ?_
    refine xcps4 (xk_arr K.1 xD_116) (fun y48 A48 hy48 ry48 => ?_)
    refine xcps4 (xj_get hy48 ry48 (i := x1) (by omega) (by omega)) (fun v49 ev49 bv49 dv49 => ?_)
    refine xi_iaload (pc' := 19) (v := v49) kc_14_18 rfl A48 (by decide) rfl (xi_in (by omega) (by rw [hy48]; omega)) ev49 ?_
    refine xcps4 (xj_set (v := v49) hy48 ry48 x1 (by first | omega | decide) (by first | omega | decide)) (fun y50 s50 hy50 ry50 => ?_)
    refine xi_iastore (pc' := 20) (x' := y50) kc_14_19 rfl A48 rfl (xi_in (by omega) (by rw [hy48]; omega)) s50 (fun hh50 eh50 => ?_)
    have K51 := xk_pa K (xk_wa rfl) xD_116 hy50 ry50 eh50
    refine xi_aload_n (pc' := 21) (x := 115) kc_14_20 rfl rfl ?_
    have A52 := ((eh50.2.1 115 (by decide)).trans A14)
    refine xi_getfield (pc' := 24) (v := .ref 117) kc_14_21 rfl rfl rfl A52 rfl ?_
    refine xi_iload_n (pc' := 25) (x := x1) kc_14_24 rfl rfl ?_
    refine xi_iload_n (pc' := 26) (x := x2) kc_14_25 rfl rfl ?_
    refine xi_iconst (pc' := 27) (v := 1) kc_14_26 rfl rfl ?_
    by_cases c53 : x2.toInt = 1
    · refine xi_cmf (pc' := 30) kc_14_27 rfl (xc_ne_f (X := x2.toInt) (Y := 1) rfl (by decide) (by omega)) ?_
      refine xi_iload_n (pc' := 31) (x := x3) kc_14_30 rfl rfl ?_
      refine xi_goto (pc' := 40) kc_14_31 rfl ?_
      refine xcps4 (xk_arr K51.1 xD_117) (fun y54 A54 hy54 ry54 => ?_)
      refine xcps4 (xj_set (v := x3) hy54 ry54 x1 (by first | omega | decide) (by first | omega | decide)) (fun y55 s55 hy55 ry55 => ?_)
      refine xi_iastore (pc' := 41) (x' := y55) kc_14_40 rfl A54 rfl (xi_in (by omega) (by rw [hy54]; omega)) s55 (fun hh55 eh55 => ?_)
      have K56 := xk_pa K51 (xk_wa rfl) xD_117 hy55 ry55 eh55
      refine xi_aload_n (pc' := 42) (x := 115) kc_14_41 rfl rfl ?_
      have A57 := ((eh55.2.1 115 (by decide)).trans A52)
      refine xi_getfield (pc' := 45) (v := .ref 118) kc_14_42 rfl rfl rfl A57 rfl ?_
      refine xi_iload_n (pc' := 46) (x := x1) kc_14_45 rfl rfl ?_
      refine xi_iload_n (pc' := 47) (x := x2) kc_14_46 rfl rfl ?_
      refine xi_iconst (pc' := 48) (v := 2) kc_14_47 rfl rfl ?_
      refine xi_cmt (pc' := 55) kc_14_48 rfl (xc_ne_t (X := x2.toInt) (Y := 2) rfl (by decide) (by omega)) ?_
      refine xi_aload_n (pc' := 56) (x := 115) kc_14_55 rfl rfl ?_
      refine xi_getfield (pc' := 59) (v := .ref 118) kc_14_56 rfl rfl rfl A57 rfl ?_
      refine xi_iload_n (pc' := 60) (x := x1) kc_14_59 rfl rfl ?_
      refine xcps4 (xk_arr K56.1 xD_118) (fun y58 A58 hy58 ry58 => ?_)
      refine xcps4 (xj_get hy58 ry58 (i := x1) (by omega) (by omega)) (fun v59 ev59 bv59 dv59 => ?_)
      refine xi_iaload (pc' := 61) (v := v59) kc_14_60 rfl A58 (by decide) rfl (xi_in (by omega) (by rw [hy58]; omega)) ev59 ?_
      refine xcps4 (xj_set (v := v59) hy58 ry58 x1 (by first | omega | decide) (by first | omega | decide)) (fun y60 s60 hy60 ry60 => ?_)
      refine xi_iastore (pc' := 62) (x' := y60) kc_14_61 rfl A58 rfl (xi_in (by omega) (by rw [hy58]; omega)) s60 (fun hh60 eh60 => ?_)
      have K61 := xk_pa K56 (xk_wa rfl) xD_118 hy60 ry60 eh60
      refine xi_aload_n (pc' := 63) (x := 115) kc_14_62 rfl rfl ?_
      have A62 := ((eh60.2.1 115 (by decide)).trans A57)
      refine xi_getfield (pc' := 66) (v := .ref 119) kc_14_63 rfl rfl rfl A62 rfl ?_
      refine xi_iload_n (pc' := 67) (x := x1) kc_14_66 rfl rfl ?_
      refine xi_iload_n (pc' := 68) (x := x2) kc_14_67 rfl rfl ?_
      refine xi_iconst (pc' := 69) (v := 3) kc_14_68 rfl rfl ?_
      refine xi_cmt (pc' := 76) kc_14_69 rfl (xc_ne_t (X := x2.toInt) (Y := 3) rfl (by decide) (by omega)) ?_
      refine xi_aload_n (pc' := 77) (x := 115) kc_14_76 rfl rfl ?_
      refine xi_getfield (pc' := 80) (v := .ref 119) kc_14_77 rfl rfl rfl A62 rfl ?_
      refine xi_iload_n (pc' := 81) (x := x1) kc_14_80 rfl rfl ?_
      refine xcps4 (xk_arr K61.1 xD_119) (fun y63 A63 hy63 ry63 => ?_)
      refine xcps4 (xj_get hy63 ry63 (i := x1) (by omega) (by omega)) (fun v64 ev64 bv64 dv64 => ?_)
      refine xi_iaload (pc' := 82) (v := v64) kc_14_81 rfl A63 (by decide) rfl (xi_in (by omega) (by rw [hy63]; omega)) ev64 ?_
      refine xcps4 (xj_set (v := v64) hy63 ry63 x1 (by first | omega | decide) (by first | omega | decide)) (fun y65 s65 hy65 ry65 => ?_)
      refine xi_iastore (pc' := 83) (x' := y65) kc_14_82 rfl A63 rfl (xi_in (by omega) (by rw [hy63]; omega)) s65 (fun hh65 eh65 => ?_)
      have K66 := xk_pa K61 (xk_wa rfl) xD_119 hy65 ry65 eh65
      refine xi_aload_n (pc' := 84) (x := 115) kc_14_83 rfl rfl ?_
      have A67 := ((eh65.2.1 115 (by decide)).trans A62)
      refine xi_getfield (pc' := 87) (v := .ref 120) kc_14_84 rfl rfl rfl A67 rfl ?_
      refine xi_iload_n (pc' := 88) (x := x1) kc_14_87 rfl rfl ?_
      refine xi_iload_n (pc' := 89) (x := x2) kc_14_88 rfl rfl ?_
      refine xi_iconst (pc' := 90) (v := 4) kc_14_89 rfl rfl ?_
      refine xi_cmt (pc' := 97) kc_14_90 rfl (xc_ne_t (X := x2.toInt) (Y := 4) rfl (by decide) (by omega)) ?_
      refine xi_aload_n (pc' := 98) (x := 115) kc_14_97 rfl rfl ?_
      refine xi_getfield (pc' := 101) (v := .ref 120) kc_14_98 rfl rfl rfl A67 rfl ?_
      refine xi_iload_n (pc' := 102) (x := x1) kc_14_101 rfl rfl ?_
      refine xcps4 (xk_arr K66.1 xD_120) (fun y68 A68 hy68 ry68 => ?_)
      refine xcps4 (xj_get hy68 ry68 (i := x1) (by omega) (by omega)) (fun v69 ev69 bv69 dv69 => ?_)
      refine xi_iaload (pc' := 103) (v := v69) kc_14_102 rfl A68 (by decide) rfl (xi_in (by omega) (by rw [hy68]; omega)) ev69 ?_
      refine xcps4 (xj_set (v := v69) hy68 ry68 x1 (by first | omega | decide) (by first | omega | decide)) (fun y70 s70 hy70 ry70 => ?_)
      refine xi_iastore (pc' := 104) (x' := y70) kc_14_103 rfl A68 rfl (xi_in (by omega) (by rw [hy68]; omega)) s70 (fun hh70 eh70 => ?_)
      have K71 := xk_pa K66 (xk_wa rfl) xD_120 hy70 ry70 eh70
      refine xi_aload_n (pc' := 105) (x := 115) kc_14_104 rfl rfl ?_
      have A72 := ((eh70.2.1 115 (by decide)).trans A67)
      refine xi_getfield (pc' := 108) (v := .ref 121) kc_14_105 rfl rfl rfl A72 rfl ?_
      refine xi_iload_n (pc' := 109) (x := x1) kc_14_108 rfl rfl ?_
      refine xi_iload_n (pc' := 110) (x := x2) kc_14_109 rfl rfl ?_
      refine xi_iconst (pc' := 111) (v := 5) kc_14_110 rfl rfl ?_
      refine xi_cmt (pc' := 118) kc_14_111 rfl (xc_ne_t (X := x2.toInt) (Y := 5) rfl (by decide) (by omega)) ?_
      refine xi_aload_n (pc' := 119) (x := 115) kc_14_118 rfl rfl ?_
      refine xi_getfield (pc' := 122) (v := .ref 121) kc_14_119 rfl rfl rfl A72 rfl ?_
      refine xi_iload_n (pc' := 123) (x := x1) kc_14_122 rfl rfl ?_
      refine xcps4 (xk_arr K71.1 xD_121) (fun y73 A73 hy73 ry73 => ?_)
      refine xcps4 (xj_get hy73 ry73 (i := x1) (by omega) (by omega)) (fun v74 ev74 bv74 dv74 => ?_)
      refine xi_iaload (pc' := 124) (v := v74) kc_14_123 rfl A73 (by decide) rfl (xi_in (by omega) (by rw [hy73]; omega)) ev74 ?_
      refine xcps4 (xj_set (v := v74) hy73 ry73 x1 (by first | omega | decide) (by first | omega | decide)) (fun y75 s75 hy75 ry75 => ?_)
      refine xi_iastore (pc' := 125) (x' := y75) kc_14_124 rfl A73 rfl (xi_in (by omega) (by rw [hy73]; omega)) s75 (fun hh75 eh75 => ?_)
      have K76 := xk_pa K71 (xk_wa rfl) xD_121 hy75 ry75 eh75
      refine xi_aload_n (pc' := 126) (x := 115) kc_14_125 rfl rfl ?_
      refine xi_iconst (pc' := 127) (v := 0) kc_14_126 rfl rfl ?_
      have A77 := ((eh75.2.1 115 (by decide)).trans A72)
      refine xi_putfield (pc' := 130) (fs' := [.int u1, .int u2, .ref 116, .ref 117, .ref 118, .ref 119, .ref 120, .ref 121, .ref 122, .ref 123, .ref 124, .ref 125, .ref 126, .ref 127, .ref 128, .ref 129, .int u3, .ref 130, .int u4, .ref 131, .ref 132, .ref 133, .ref 134, .int u5, .ref 135, .ref 136, .ref 137, .ref 138, .ref 139, .ref 140, .ref 141, .ref 142, .int u6, .int u7, .int u8, .ref 143, .ref 144, .ref 145, .ref 146, .ref 147, .ref 148, .int 0, .ref 149, .ref 150, .ref 151, .int u10, .ref 152, .ref 153, .ref 154, .ref 155, .ref 156, .ref 157, .ref 158, .ref 159, .int u11, .ref 160, .int u12, .ref 161, .ref 162, .ref 163, .ref 164, .int u13, .ref 165, .ref 166]) kc_14_127 rfl rfl rfl A77 rfl rfl rfl (Nat.le_of_ble_eq_true rfl) rfl (fun hh79 eh78 => ?_)
      have K80 := xk_pf (k := 41) (v := 0) K76 (xk_wf rfl) xD_115 A77 rfl (by first | omega | decide) (by first | omega | decide) eh78 rfl
      refine xi_return kc_14_130 mr_14 ?_
      exact kk hh79 K80
    · refine xi_cmt (pc' := 34) kc_14_27 rfl (xc_ne_t (X := x2.toInt) (Y := 1) rfl (by decide) (by omega)) ?_
      refine xi_aload_n (pc' := 35) (x := 115) kc_14_34 rfl rfl ?_
      refine xi_getfield (pc' := 38) (v := .ref 117) kc_14_35 rfl rfl rfl A52 rfl ?_
      refine xi_iload_n (pc' := 39) (x := x1) kc_14_38 rfl rfl ?_
      refine xcps4 (xk_arr K51.1 xD_117) (fun y81 A81 hy81 ry81 => ?_)
      refine xcps4 (xj_get hy81 ry81 (i := x1) (by omega) (by omega)) (fun v82 ev82 bv82 dv82 => ?_)
      refine xi_iaload (pc' := 40) (v := v82) kc_14_39 rfl A81 (by decide) rfl (xi_in (by omega) (by rw [hy81]; omega)) ev82 ?_
      refine xcps4 (xj_set (v := v82) hy81 ry81 x1 (by first | omega | decide) (by first | omega | decide)) (fun y83 s83 hy83 ry83 => ?_)
      refine xi_iastore (pc' := 41) (x' := y83) kc_14_40 rfl A81 rfl (xi_in (by omega) (by rw [hy81]; omega)) s83 (fun hh83 eh83 => ?_)
      have K84 := xk_pa K51 (xk_wa rfl) xD_117 hy83 ry83 eh83
      refine xi_aload_n (pc' := 42) (x := 115) kc_14_41 rfl rfl ?_
      have A85 := ((eh83.2.1 115 (by decide)).trans A52)
      refine xi_getfield (pc' := 45) (v := .ref 118) kc_14_42 rfl rfl rfl A85 rfl ?_
      refine xi_iload_n (pc' := 46) (x := x1) kc_14_45 rfl rfl ?_
      refine xi_iload_n (pc' := 47) (x := x2) kc_14_46 rfl rfl ?_
      refine xi_iconst (pc' := 48) (v := 2) kc_14_47 rfl rfl ?_
      by_cases c86 : x2.toInt = 2
      · refine xi_cmf (pc' := 51) kc_14_48 rfl (xc_ne_f (X := x2.toInt) (Y := 2) rfl (by decide) (by omega)) ?_
        refine xi_iload_n (pc' := 52) (x := x3) kc_14_51 rfl rfl ?_
        refine xi_goto (pc' := 61) kc_14_52 rfl ?_
        refine xcps4 (xk_arr K84.1 xD_118) (fun y87 A87 hy87 ry87 => ?_)
        refine xcps4 (xj_set (v := x3) hy87 ry87 x1 (by first | omega | decide) (by first | omega | decide)) (fun y88 s88 hy88 ry88 => ?_)
        refine xi_iastore (pc' := 62) (x' := y88) kc_14_61 rfl A87 rfl (xi_in (by omega) (by rw [hy87]; omega)) s88 (fun hh88 eh88 => ?_)
        have K89 := xk_pa K84 (xk_wa rfl) xD_118 hy88 ry88 eh88
        refine xi_aload_n (pc' := 63) (x := 115) kc_14_62 rfl rfl ?_
        have A90 := ((eh88.2.1 115 (by decide)).trans A85)
        refine xi_getfield (pc' := 66) (v := .ref 119) kc_14_63 rfl rfl rfl A90 rfl ?_
        refine xi_iload_n (pc' := 67) (x := x1) kc_14_66 rfl rfl ?_
        refine xi_iload_n (pc' := 68) (x := x2) kc_14_67 rfl rfl ?_
        refine xi_iconst (pc' := 69) (v := 3) kc_14_68 rfl rfl ?_
        refine xi_cmt (pc' := 76) kc_14_69 rfl (xc_ne_t (X := x2.toInt) (Y := 3) rfl (by decide) (by omega)) ?_
        refine xi_aload_n (pc' := 77) (x := 115) kc_14_76 rfl rfl ?_
        refine xi_getfield (pc' := 80) (v := .ref 119) kc_14_77 rfl rfl rfl A90 rfl ?_
        refine xi_iload_n (pc' := 81) (x := x1) kc_14_80 rfl rfl ?_
        refine xcps4 (xk_arr K89.1 xD_119) (fun y91 A91 hy91 ry91 => ?_)
        refine xcps4 (xj_get hy91 ry91 (i := x1) (by omega) (by omega)) (fun v92 ev92 bv92 dv92 => ?_)
        refine xi_iaload (pc' := 82) (v := v92) kc_14_81 rfl A91 (by decide) rfl (xi_in (by omega) (by rw [hy91]; omega)) ev92 ?_
        refine xcps4 (xj_set (v := v92) hy91 ry91 x1 (by first | omega | decide) (by first | omega | decide)) (fun y93 s93 hy93 ry93 => ?_)
        refine xi_iastore (pc' := 83) (x' := y93) kc_14_82 rfl A91 rfl (xi_in (by omega) (by rw [hy91]; omega)) s93 (fun hh93 eh93 => ?_)
        have K94 := xk_pa K89 (xk_wa rfl) xD_119 hy93 ry93 eh93
        refine xi_aload_n (pc' := 84) (x := 115) kc_14_83 rfl rfl ?_
        have A95 := ((eh93.2.1 115 (by decide)).trans A90)
        refine xi_getfield (pc' := 87) (v := .ref 120) kc_14_84 rfl rfl rfl A95 rfl ?_
        refine xi_iload_n (pc' := 88) (x := x1) kc_14_87 rfl rfl ?_
        refine xi_iload_n (pc' := 89) (x := x2) kc_14_88 rfl rfl ?_
        refine xi_iconst (pc' := 90) (v := 4) kc_14_89 rfl rfl ?_
        refine xi_cmt (pc' := 97) kc_14_90 rfl (xc_ne_t (X := x2.toInt) (Y := 4) rfl (by decide) (by omega)) ?_
        refine xi_aload_n (pc' := 98) (x := 115) kc_14_97 rfl rfl ?_
        refine xi_getfield (pc' := 101) (v := .ref 120) kc_14_98 rfl rfl rfl A95 rfl ?_
        refine xi_iload_n (pc' := 102) (x := x1) kc_14_101 rfl rfl ?_
        refine xcps4 (xk_arr K94.1 xD_120) (fun y96 A96 hy96 ry96 => ?_)
        refine xcps4 (xj_get hy96 ry96 (i := x1) (by omega) (by omega)) (fun v97 ev97 bv97 dv97 => ?_)
        refine xi_iaload (pc' := 103) (v := v97) kc_14_102 rfl A96 (by decide) rfl (xi_in (by omega) (by rw [hy96]; omega)) ev97 ?_
        refine xcps4 (xj_set (v := v97) hy96 ry96 x1 (by first | omega | decide) (by first | omega | decide)) (fun y98 s98 hy98 ry98 => ?_)
        refine xi_iastore (pc' := 104) (x' := y98) kc_14_103 rfl A96 rfl (xi_in (by omega) (by rw [hy96]; omega)) s98 (fun hh98 eh98 => ?_)
        have K99 := xk_pa K94 (xk_wa rfl) xD_120 hy98 ry98 eh98
        refine xi_aload_n (pc' := 105) (x := 115) kc_14_104 rfl rfl ?_
        have A100 := ((eh98.2.1 115 (by decide)).trans A95)
        refine xi_getfield (pc' := 108) (v := .ref 121) kc_14_105 rfl rfl rfl A100 rfl ?_
        refine xi_iload_n (pc' := 109) (x := x1) kc_14_108 rfl rfl ?_
        refine xi_iload_n (pc' := 110) (x := x2) kc_14_109 rfl rfl ?_
        refine xi_iconst (pc' := 111) (v := 5) kc_14_110 rfl rfl ?_
        refine xi_cmt (pc' := 118) kc_14_111 rfl (xc_ne_t (X := x2.toInt) (Y := 5) rfl (by decide) (by omega)) ?_
        refine xi_aload_n (pc' := 119) (x := 115) kc_14_118 rfl rfl ?_
        refine xi_getfield (pc' := 122) (v := .ref 121) kc_14_119 rfl rfl rfl A100 rfl ?_
        refine xi_iload_n (pc' := 123) (x := x1) kc_14_122 rfl rfl ?_
        refine xcps4 (xk_arr K99.1 xD_121) (fun y101 A101 hy101 ry101 => ?_)
        refine xcps4 (xj_get hy101 ry101 (i := x1) (by omega) (by omega)) (fun v102 ev102 bv102 dv102 => ?_)
        refine xi_iaload (pc' := 124) (v := v102) kc_14_123 rfl A101 (by decide) rfl (xi_in (by omega) (by rw [hy101]; omega)) ev102 ?_
        refine xcps4 (xj_set (v := v102) hy101 ry101 x1 (by first | omega | decide) (by first | omega | decide)) (fun y103 s103 hy103 ry103 => ?_)
        refine xi_iastore (pc' := 125) (x' := y103) kc_14_124 rfl A101 rfl (xi_in (by omega) (by rw [hy101]; omega)) s103 (fun hh103 eh103 => ?_)
        have K104 := xk_pa K99 (xk_wa rfl) xD_121 hy103 ry103 eh103
        refine xi_aload_n (pc' := 126) (x := 115) kc_14_125 rfl rfl ?_
        refine xi_iconst (pc' := 127) (v := 0) kc_14_126 rfl rfl ?_
        have A105 := ((eh103.2.1 115 (by decide)).trans A100)
        refine xi_putfield (pc' := 130) (fs' := [.int u1, .int u2, .ref 116, .ref 117, .ref 118, .ref 119, .ref 120, .ref 121, .ref 122, .ref 123, .ref 124, .ref 125, .ref 126, .ref 127, .ref 128, .ref 129, .int u3, .ref 130, .int u4, .ref 131, .ref 132, .ref 133, .ref 134, .int u5, .ref 135, .ref 136, .ref 137, .ref 138, .ref 139, .ref 140, .ref 141, .ref 142, .int u6, .int u7, .int u8, .ref 143, .ref 144, .ref 145, .ref 146, .ref 147, .ref 148, .int 0, .ref 149, .ref 150, .ref 151, .int u10, .ref 152, .ref 153, .ref 154, .ref 155, .ref 156, .ref 157, .ref 158, .ref 159, .int u11, .ref 160, .int u12, .ref 161, .ref 162, .ref 163, .ref 164, .int u13, .ref 165, .ref 166]) kc_14_127 rfl rfl rfl A105 rfl rfl rfl (Nat.le_of_ble_eq_true rfl) rfl (fun hh107 eh106 => ?_)
        have K108 := xk_pf (k := 41) (v := 0) K104 (xk_wf rfl) xD_115 A105 rfl (by first | omega | decide) (by first | omega | decide) eh106 rfl
        refine xi_return kc_14_130 mr_14 ?_
        exact kk hh107 K108
      · refine xi_cmt (pc' := 55) kc_14_48 rfl (xc_ne_t (X := x2.toInt) (Y := 2) rfl (by decide) (by omega)) ?_
        refine xi_aload_n (pc' := 56) (x := 115) kc_14_55 rfl rfl ?_
        refine xi_getfield (pc' := 59) (v := .ref 118) kc_14_56 rfl rfl rfl A85 rfl ?_
        refine xi_iload_n (pc' := 60) (x := x1) kc_14_59 rfl rfl ?_
        refine xcps4 (xk_arr K84.1 xD_118) (fun y109 A109 hy109 ry109 => ?_)
        refine xcps4 (xj_get hy109 ry109 (i := x1) (by omega) (by omega)) (fun v110 ev110 bv110 dv110 => ?_)
        refine xi_iaload (pc' := 61) (v := v110) kc_14_60 rfl A109 (by decide) rfl (xi_in (by omega) (by rw [hy109]; omega)) ev110 ?_
        refine xcps4 (xj_set (v := v110) hy109 ry109 x1 (by first | omega | decide) (by first | omega | decide)) (fun y111 s111 hy111 ry111 => ?_)
        refine xi_iastore (pc' := 62) (x' := y111) kc_14_61 rfl A109 rfl (xi_in (by omega) (by rw [hy109]; omega)) s111 (fun hh111 eh111 => ?_)
        have K112 := xk_pa K84 (xk_wa rfl) xD_118 hy111 ry111 eh111
        refine xi_aload_n (pc' := 63) (x := 115) kc_14_62 rfl rfl ?_
        have A113 := ((eh111.2.1 115 (by decide)).trans A85)
        refine xi_getfield (pc' := 66) (v := .ref 119) kc_14_63 rfl rfl rfl A113 rfl ?_
        refine xi_iload_n (pc' := 67) (x := x1) kc_14_66 rfl rfl ?_
        refine xi_iload_n (pc' := 68) (x := x2) kc_14_67 rfl rfl ?_
        refine xi_iconst (pc' := 69) (v := 3) kc_14_68 rfl rfl ?_
        by_cases c114 : x2.toInt = 3
        · refine xi_cmf (pc' := 72) kc_14_69 rfl (xc_ne_f (X := x2.toInt) (Y := 3) rfl (by decide) (by omega)) ?_
          refine xi_iload_n (pc' := 73) (x := x3) kc_14_72 rfl rfl ?_
          refine xi_goto (pc' := 82) kc_14_73 rfl ?_
          refine xcps4 (xk_arr K112.1 xD_119) (fun y115 A115 hy115 ry115 => ?_)
          refine xcps4 (xj_set (v := x3) hy115 ry115 x1 (by first | omega | decide) (by first | omega | decide)) (fun y116 s116 hy116 ry116 => ?_)
          refine xi_iastore (pc' := 83) (x' := y116) kc_14_82 rfl A115 rfl (xi_in (by omega) (by rw [hy115]; omega)) s116 (fun hh116 eh116 => ?_)
          have K117 := xk_pa K112 (xk_wa rfl) xD_119 hy116 ry116 eh116
          refine xi_aload_n (pc' := 84) (x := 115) kc_14_83 rfl rfl ?_
          have A118 := ((eh116.2.1 115 (by decide)).trans A113)
          refine xi_getfield (pc' := 87) (v := .ref 120) kc_14_84 rfl rfl rfl A118 rfl ?_
          refine xi_iload_n (pc' := 88) (x := x1) kc_14_87 rfl rfl ?_
          refine xi_iload_n (pc' := 89) (x := x2) kc_14_88 rfl rfl ?_
          refine xi_iconst (pc' := 90) (v := 4) kc_14_89 rfl rfl ?_
          refine xi_cmt (pc' := 97) kc_14_90 rfl (xc_ne_t (X := x2.toInt) (Y := 4) rfl (by decide) (by omega)) ?_
          refine xi_aload_n (pc' := 98) (x := 115) kc_14_97 rfl rfl ?_
          refine xi_getfield (pc' := 101) (v := .ref 120) kc_14_98 rfl rfl rfl A118 rfl ?_
          refine xi_iload_n (pc' := 102) (x := x1) kc_14_101 rfl rfl ?_
          refine xcps4 (xk_arr K117.1 xD_120) (fun y119 A119 hy119 ry119 => ?_)
          refine xcps4 (xj_get hy119 ry119 (i := x1) (by omega) (by omega)) (fun v120 ev120 bv120 dv120 => ?_)
          refine xi_iaload (pc' := 103) (v := v120) kc_14_102 rfl A119 (by decide) rfl (xi_in (by omega) (by rw [hy119]; omega)) ev120 ?_
          refine xcps4 (xj_set (v := v120) hy119 ry119 x1 (by first | omega | decide) (by first | omega | decide)) (fun y121 s121 hy121 ry121 => ?_)
          refine xi_iastore (pc' := 104) (x' := y121) kc_14_103 rfl A119 rfl (xi_in (by omega) (by rw [hy119]; omega)) s121 (fun hh121 eh121 => ?_)
          have K122 := xk_pa K117 (xk_wa rfl) xD_120 hy121 ry121 eh121
          refine xi_aload_n (pc' := 105) (x := 115) kc_14_104 rfl rfl ?_
          have A123 := ((eh121.2.1 115 (by decide)).trans A118)
          refine xi_getfield (pc' := 108) (v := .ref 121) kc_14_105 rfl rfl rfl A123 rfl ?_
          refine xi_iload_n (pc' := 109) (x := x1) kc_14_108 rfl rfl ?_
          refine xi_iload_n (pc' := 110) (x := x2) kc_14_109 rfl rfl ?_
          refine xi_iconst (pc' := 111) (v := 5) kc_14_110 rfl rfl ?_
          refine xi_cmt (pc' := 118) kc_14_111 rfl (xc_ne_t (X := x2.toInt) (Y := 5) rfl (by decide) (by omega)) ?_
          refine xi_aload_n (pc' := 119) (x := 115) kc_14_118 rfl rfl ?_
          refine xi_getfield (pc' := 122) (v := .ref 121) kc_14_119 rfl rfl rfl A123 rfl ?_
          refine xi_iload_n (pc' := 123) (x := x1) kc_14_122 rfl rfl ?_
          refine xcps4 (xk_arr K122.1 xD_121) (fun y124 A124 hy124 ry124 => ?_)
          refine xcps4 (xj_get hy124 ry124 (i := x1) (by omega) (by omega)) (fun v125 ev125 bv125 dv125 => ?_)
          refine xi_iaload (pc' := 124) (v := v125) kc_14_123 rfl A124 (by decide) rfl (xi_in (by omega) (by rw [hy124]; omega)) ev125 ?_
          refine xcps4 (xj_set (v := v125) hy124 ry124 x1 (by first | omega | decide) (by first | omega | decide)) (fun y126 s126 hy126 ry126 => ?_)
          refine xi_iastore (pc' := 125) (x' := y126) kc_14_124 rfl A124 rfl (xi_in (by omega) (by rw [hy124]; omega)) s126 (fun hh126 eh126 => ?_)
          have K127 := xk_pa K122 (xk_wa rfl) xD_121 hy126 ry126 eh126
          refine xi_aload_n (pc' := 126) (x := 115) kc_14_125 rfl rfl ?_
          refine xi_iconst (pc' := 127) (v := 0) kc_14_126 rfl rfl ?_
          have A128 := ((eh126.2.1 115 (by decide)).trans A123)
          refine xi_putfield (pc' := 130) (fs' := [.int u1, .int u2, .ref 116, .ref 117, .ref 118, .ref 119, .ref 120, .ref 121, .ref 122, .ref 123, .ref 124, .ref 125, .ref 126, .ref 127, .ref 128, .ref 129, .int u3, .ref 130, .int u4, .ref 131, .ref 132, .ref 133, .ref 134, .int u5, .ref 135, .ref 136, .ref 137, .ref 138, .ref 139, .ref 140, .ref 141, .ref 142, .int u6, .int u7, .int u8, .ref 143, .ref 144, .ref 145, .ref 146, .ref 147, .ref 148, .int 0, .ref 149, .ref 150, .ref 151, .int u10, .ref 152, .ref 153, .ref 154, .ref 155, .ref 156, .ref 157, .ref 158, .ref 159, .int u11, .ref 160, .int u12, .ref 161, .ref 162, .ref 163, .ref 164, .int u13, .ref 165, .ref 166]) kc_14_127 rfl rfl rfl A128 rfl rfl rfl (Nat.le_of_ble_eq_true rfl) rfl (fun hh130 eh129 => ?_)
          have K131 := xk_pf (k := 41) (v := 0) K127 (xk_wf rfl) xD_115 A128 rfl (by first | omega | decide) (by first | omega | decide) eh129 rfl
          refine xi_return kc_14_130 mr_14 ?_
          exact kk hh130 K131
        · refine xi_cmt (pc' := 76) kc_14_69 rfl (xc_ne_t (X := x2.toInt) (Y := 3) rfl (by decide) (by omega)) ?_
          refine xi_aload_n (pc' := 77) (x := 115) kc_14_76 rfl rfl ?_
          refine xi_getfield (pc' := 80) (v := .ref 119) kc_14_77 rfl rfl rfl A113 rfl ?_
          refine xi_iload_n (pc' := 81) (x := x1) kc_14_80 rfl rfl ?_
          refine xcps4 (xk_arr K112.1 xD_119) (fun y132 A132 hy132 ry132 => ?_)
          refine xcps4 (xj_get hy132 ry132 (i := x1) (by omega) (by omega)) (fun v133 ev133 bv133 dv133 => ?_)
          refine xi_iaload (pc' := 82) (v := v133) kc_14_81 rfl A132 (by decide) rfl (xi_in (by omega) (by rw [hy132]; omega)) ev133 ?_
          refine xcps4 (xj_set (v := v133) hy132 ry132 x1 (by first | omega | decide) (by first | omega | decide)) (fun y134 s134 hy134 ry134 => ?_)
          refine xi_iastore (pc' := 83) (x' := y134) kc_14_82 rfl A132 rfl (xi_in (by omega) (by rw [hy132]; omega)) s134 (fun hh134 eh134 => ?_)
          have K135 := xk_pa K112 (xk_wa rfl) xD_119 hy134 ry134 eh134
          refine xi_aload_n (pc' := 84) (x := 115) kc_14_83 rfl rfl ?_
          have A136 := ((eh134.2.1 115 (by decide)).trans A113)
          refine xi_getfield (pc' := 87) (v := .ref 120) kc_14_84 rfl rfl rfl A136 rfl ?_
          refine xi_iload_n (pc' := 88) (x := x1) kc_14_87 rfl rfl ?_
          refine xi_iload_n (pc' := 89) (x := x2) kc_14_88 rfl rfl ?_
          refine xi_iconst (pc' := 90) (v := 4) kc_14_89 rfl rfl ?_
          by_cases c137 : x2.toInt = 4
          · refine xi_cmf (pc' := 93) kc_14_90 rfl (xc_ne_f (X := x2.toInt) (Y := 4) rfl (by decide) (by omega)) ?_
            refine xi_iload_n (pc' := 94) (x := x3) kc_14_93 rfl rfl ?_
            refine xi_goto (pc' := 103) kc_14_94 rfl ?_
            refine xcps4 (xk_arr K135.1 xD_120) (fun y138 A138 hy138 ry138 => ?_)
            refine xcps4 (xj_set (v := x3) hy138 ry138 x1 (by first | omega | decide) (by first | omega | decide)) (fun y139 s139 hy139 ry139 => ?_)
            refine xi_iastore (pc' := 104) (x' := y139) kc_14_103 rfl A138 rfl (xi_in (by omega) (by rw [hy138]; omega)) s139 (fun hh139 eh139 => ?_)
            have K140 := xk_pa K135 (xk_wa rfl) xD_120 hy139 ry139 eh139
            refine xi_aload_n (pc' := 105) (x := 115) kc_14_104 rfl rfl ?_
            have A141 := ((eh139.2.1 115 (by decide)).trans A136)
            refine xi_getfield (pc' := 108) (v := .ref 121) kc_14_105 rfl rfl rfl A141 rfl ?_
            refine xi_iload_n (pc' := 109) (x := x1) kc_14_108 rfl rfl ?_
            refine xi_iload_n (pc' := 110) (x := x2) kc_14_109 rfl rfl ?_
            refine xi_iconst (pc' := 111) (v := 5) kc_14_110 rfl rfl ?_
            refine xi_cmt (pc' := 118) kc_14_111 rfl (xc_ne_t (X := x2.toInt) (Y := 5) rfl (by decide) (by omega)) ?_
            refine xi_aload_n (pc' := 119) (x := 115) kc_14_118 rfl rfl ?_
            refine xi_getfield (pc' := 122) (v := .ref 121) kc_14_119 rfl rfl rfl A141 rfl ?_
            refine xi_iload_n (pc' := 123) (x := x1) kc_14_122 rfl rfl ?_
            refine xcps4 (xk_arr K140.1 xD_121) (fun y142 A142 hy142 ry142 => ?_)
            refine xcps4 (xj_get hy142 ry142 (i := x1) (by omega) (by omega)) (fun v143 ev143 bv143 dv143 => ?_)
            refine xi_iaload (pc' := 124) (v := v143) kc_14_123 rfl A142 (by decide) rfl (xi_in (by omega) (by rw [hy142]; omega)) ev143 ?_
            refine xcps4 (xj_set (v := v143) hy142 ry142 x1 (by first | omega | decide) (by first | omega | decide)) (fun y144 s144 hy144 ry144 => ?_)
            refine xi_iastore (pc' := 125) (x' := y144) kc_14_124 rfl A142 rfl (xi_in (by omega) (by rw [hy142]; omega)) s144 (fun hh144 eh144 => ?_)
            have K145 := xk_pa K140 (xk_wa rfl) xD_121 hy144 ry144 eh144
            refine xi_aload_n (pc' := 126) (x := 115) kc_14_125 rfl rfl ?_
            refine xi_iconst (pc' := 127) (v := 0) kc_14_126 rfl rfl ?_
            have A146 := ((eh144.2.1 115 (by decide)).trans A141)
            refine xi_putfield (pc' := 130) (fs' := [.int u1, .int u2, .ref 116, .ref 117, .ref 118, .ref 119, .ref 120, .ref 121, .ref 122, .ref 123, .ref 124, .ref 125, .ref 126, .ref 127, .ref 128, .ref 129, .int u3, .ref 130, .int u4, .ref 131, .ref 132, .ref 133, .ref 134, .int u5, .ref 135, .ref 136, .ref 137, .ref 138, .ref 139, .ref 140, .ref 141, .ref 142, .int u6, .int u7, .int u8, .ref 143, .ref 144, .ref 145, .ref 146, .ref 147, .ref 148, .int 0, .ref 149, .ref 150, .ref 151, .int u10, .ref 152, .ref 153, .ref 154, .ref 155, .ref 156, .ref 157, .ref 158, .ref 159, .int u11, .ref 160, .int u12, .ref 161, .ref 162, .ref 163, .ref 164, .int u13, .ref 165, .ref 166]) kc_14_127 rfl rfl rfl A146 rfl rfl rfl (Nat.le_of_ble_eq_true rfl) rfl (fun hh148 eh147 => ?_)
            have K149 := xk_pf (k := 41) (v := 0) K145 (xk_wf rfl) xD_115 A146 rfl (by first | omega | decide) (by first | omega | decide) eh147 rfl
            refine xi_return kc_14_130 mr_14 ?_
            exact kk hh148 K149
          · refine xi_cmt (pc' := 97) kc_14_90 rfl (xc_ne_t (X := x2.toInt) (Y := 4) rfl (by decide) (by omega)) ?_
            refine xi_aload_n (pc' := 98) (x := 115) kc_14_97 rfl rfl ?_
            refine xi_getfield (pc' := 101) (v := .ref 120) kc_14_98 rfl rfl rfl A136 rfl ?_
            refine xi_iload_n (pc' := 102) (x := x1) kc_14_101 rfl rfl ?_
            refine xcps4 (xk_arr K135.1 xD_120) (fun y150 A150 hy150 ry150 => ?_)
            refine xcps4 (xj_get hy150 ry150 (i := x1) (by omega) (by omega)) (fun v151 ev151 bv151 dv151 => ?_)
            refine xi_iaload (pc' := 103) (v := v151) kc_14_102 rfl A150 (by decide) rfl (xi_in (by omega) (by rw [hy150]; omega)) ev151 ?_
            refine xcps4 (xj_set (v := v151) hy150 ry150 x1 (by first | omega | decide) (by first | omega | decide)) (fun y152 s152 hy152 ry152 => ?_)
            refine xi_iastore (pc' := 104) (x' := y152) kc_14_103 rfl A150 rfl (xi_in (by omega) (by rw [hy150]; omega)) s152 (fun hh152 eh152 => ?_)
            have K153 := xk_pa K135 (xk_wa rfl) xD_120 hy152 ry152 eh152
            refine xi_aload_n (pc' := 105) (x := 115) kc_14_104 rfl rfl ?_
            have A154 := ((eh152.2.1 115 (by decide)).trans A136)
            refine xi_getfield (pc' := 108) (v := .ref 121) kc_14_105 rfl rfl rfl A154 rfl ?_
            refine xi_iload_n (pc' := 109) (x := x1) kc_14_108 rfl rfl ?_
            refine xi_iload_n (pc' := 110) (x := x2) kc_14_109 rfl rfl ?_
            refine xi_iconst (pc' := 111) (v := 5) kc_14_110 rfl rfl ?_
            refine xi_cmf (pc' := 114) kc_14_111 rfl (xc_ne_f (X := x2.toInt) (Y := 5) rfl (by decide) (by omega)) ?_
            refine xi_iload_n (pc' := 115) (x := x3) kc_14_114 rfl rfl ?_
            refine xi_goto (pc' := 124) kc_14_115 rfl ?_
            refine xcps4 (xk_arr K153.1 xD_121) (fun y155 A155 hy155 ry155 => ?_)
            refine xcps4 (xj_set (v := x3) hy155 ry155 x1 (by first | omega | decide) (by first | omega | decide)) (fun y156 s156 hy156 ry156 => ?_)
            refine xi_iastore (pc' := 125) (x' := y156) kc_14_124 rfl A155 rfl (xi_in (by omega) (by rw [hy155]; omega)) s156 (fun hh156 eh156 => ?_)
            have K157 := xk_pa K153 (xk_wa rfl) xD_121 hy156 ry156 eh156
            refine xi_aload_n (pc' := 126) (x := 115) kc_14_125 rfl rfl ?_
            refine xi_iconst (pc' := 127) (v := 0) kc_14_126 rfl rfl ?_
            have A158 := ((eh156.2.1 115 (by decide)).trans A154)
            refine xi_putfield (pc' := 130) (fs' := [.int u1, .int u2, .ref 116, .ref 117, .ref 118, .ref 119, .ref 120, .ref 121, .ref 122, .ref 123, .ref 124, .ref 125, .ref 126, .ref 127, .ref 128, .ref 129, .int u3, .ref 130, .int u4, .ref 131, .ref 132, .ref 133, .ref 134, .int u5, .ref 135, .ref 136, .ref 137, .ref 138, .ref 139, .ref 140, .ref 141, .ref 142, .int u6, .int u7, .int u8, .ref 143, .ref 144, .ref 145, .ref 146, .ref 147, .ref 148, .int 0, .ref 149, .ref 150, .ref 151, .int u10, .ref 152, .ref 153, .ref 154, .ref 155, .ref 156, .ref 157, .ref 158, .ref 159, .int u11, .ref 160, .int u12, .ref 161, .ref 162, .ref 163, .ref 164, .int u13, .ref 165, .ref 166]) kc_14_127 rfl rfl rfl A158 rfl rfl rfl (Nat.le_of_ble_eq_true rfl) rfl (fun hh160 eh159 => ?_)
            have K161 := xk_pf (k := 41) (v := 0) K157 (xk_wf rfl) xD_115 A158 rfl (by first | omega | decide) (by first | omega | decide) eh159 rfl
            refine xi_return kc_14_130 mr_14 ?_
            exact kk hh160 K161
set_option maxHeartbeats 4000000 in
theorem mt_147_0 {J : xe_J} {ov : List (List Int32)} (hJ : ∀ d mj as h, mj ≠ xe_loff → J d mj as h = none) (hov1 : ov[1]? = some [10, 0, 0, 0, 0, 0]) (hov2 : ov[2]? = some [99, 30, 50, 50, 1, 99999]) {d : Nat} {Q : Option Value → xe_H → Prop} {h : xe_H} {x1 : Int32} (T : xt h) (b1 : (0 ≤ x1.toInt ∧ x1.toInt ≤ 59)) (kk : (∀ (r : Int32) (h' : xe_H), xk [(0, 9), (115, 1), (83, 0), (29, 0), (31, 0), (33, 0), (35, 0), (37, 0), (39, 0), (41, 0), (43, 0), (45, 0), (47, 0), (49, 0), (51, 0), (125, 0), (29, 2), (31, 2), (33, 2), (35, 2), (37, 2), (39, 2), (41, 2), (43, 2), (45, 2), (47, 2), (49, 2), (51, 2), (127, 0), (1, 5), (115, 23)] h h' → Q (some (.int r)) h')) : xw J ov (d + 1) 147 (0, [(0, .ref 66), (1, .int x1)], [], h) Q := by
  have K : xk [(0, 9), (115, 1), (83, 0), (29, 0), (31, 0), (33, 0), (35, 0), (37, 0), (39, 0), (41, 0), (43, 0), (45, 0), (47, 0), (49, 0), (51, 0), (125, 0), (29, 2), (31, 2), (33, 2), (35, 2), (37, 2), (39, 2), (41, 2), (43, 2), (45, 2), (47, 2), (49, 2), (51, 2), (127, 0), (1, 5), (115, 23)] h h := xk_re T
  refine xi_iload_n (pc' := 1) (x := x1) kc_147_0 rfl rfl ?_
  refine xi_iff (pc' := 4) kc_147_1 rfl (xc_lt_f (X := x1.toInt) (Y := 0) rfl (by decide) (by omega)) ?_
  refine xi_iload_n (pc' := 5) (x := x1) kc_147_4 rfl rfl ?_
  refine xi_bipush (pc' := 7) (v := 60) kc_147_5 rfl rfl ?_
  refine xi_cmf (pc' := 10) kc_147_7 rfl (xc_ge_f (X := x1.toInt) (Y := 60) rfl (by decide) (by omega)) ?_
  refine xi_aload_n (pc' := 11) (x := 66) kc_147_10 rfl rfl ?_
  refine xp_66 K.1 (fun u2 wl1 bu2 A3 => ?_)
  refine xi_getfield (pc' := 14) (v := .ref 70) kc_147_11 rfl rfl rfl A3 rfl ?_
  refine xi_iload_n (pc' := 15) (x := x1) kc_147_14 rfl rfl ?_
  refine xcps4 (xk_arr K.1 xD_70) (fun y4 A4 hy4 ry4 => ?_)
  refine xcps4 (xj_get hy4 ry4 (i := x1) (by omega) (by omega)) (fun v5 ev5 bv5 dv5 => ?_)
  refine xi_iaload (pc' := 16) (v := v5) kc_147_15 rfl A4 (by decide) rfl (xi_in (by omega) (by rw [hy4]; omega)) ev5 ?_
  refine xi_static (mj := 104) (as := [.int v5]) (st1 := []) (lv0 := [(0, .int v5)]) kc_147_16 rfl rfl (Nat.le_of_ble_eq_true rfl) rfl rfl (Nat.le_of_ble_eq_true rfl) (hJ _ _ _ _ (by decide)) (xm_le ml_104 rfl) rfl ?_
  refine xi_iload_n (pc' := 1) (x := v5) kc_104_0 rfl rfl ?_
  by_cases c6 : v5.toInt < 0
  · refine xi_ift (pc' := 14) kc_104_1 rfl (xc_lt_t (X := v5.toInt) (Y := 0) rfl (by decide) (by omega)) ?_
    refine xi_iconst (pc' := 15) (v := 0) kc_104_14 rfl rfl ?_
    refine xi_ireturn kc_104_15 mr_104 rfl ?_
    show xw J ov (d + 1) 147 (19, [(0, .ref 66), (1, .int x1)], [.int 0], h) _
    refine xi_iff (pc' := 22) kc_147_19 rfl rfl ?_
    refine xi_iconst (pc' := 23) (v := 0) kc_147_22 rfl rfl ?_
    refine xi_ireturn kc_147_23 mr_147 rfl ?_
    have zc0 : (0 : Int32).toInt = 0 := by decide
    exact kk 0 h K
  · refine xi_iff (pc' := 4) kc_104_1 rfl (xc_lt_f (X := v5.toInt) (Y := 0) rfl (by decide) (by omega)) ?_
    refine xi_iload_n (pc' := 5) (x := v5) kc_104_4 rfl rfl ?_
    refine xi_bipush (pc' := 7) (v := 12) kc_104_5 rfl rfl ?_
    by_cases c7 : 12 ≤ v5.toInt
    · refine xi_cmt (pc' := 14) kc_104_7 rfl (xc_ge_t (X := v5.toInt) (Y := 12) rfl (by decide) (by omega)) ?_
      refine xi_iconst (pc' := 15) (v := 0) kc_104_14 rfl rfl ?_
      refine xi_ireturn kc_104_15 mr_104 rfl ?_
      show xw J ov (d + 1) 147 (19, [(0, .ref 66), (1, .int x1)], [.int 0], h) _
      refine xi_iff (pc' := 22) kc_147_19 rfl rfl ?_
      refine xi_iconst (pc' := 23) (v := 0) kc_147_22 rfl rfl ?_
      refine xi_ireturn kc_147_23 mr_147 rfl ?_
      have zc0 : (0 : Int32).toInt = 0 := by decide
      exact kk 0 h K
    · refine xi_cmf (pc' := 10) kc_104_7 rfl (xc_ge_f (X := v5.toInt) (Y := 12) rfl (by decide) (by omega)) ?_
      refine xi_iconst (pc' := 11) (v := 1) kc_104_10 rfl rfl ?_
      refine xi_goto (pc' := 15) kc_104_11 rfl ?_
      refine xi_ireturn kc_104_15 mr_104 rfl ?_
      show xw J ov (d + 1) 147 (19, [(0, .ref 66), (1, .int x1)], [.int 1], h) _
      refine xi_ift (pc' := 24) kc_147_19 rfl rfl ?_
      refine xi_aload_n (pc' := 25) (x := 66) kc_147_24 rfl rfl ?_
      refine xi_getfield (pc' := 28) (v := .ref 67) kc_147_25 rfl rfl rfl A3 rfl ?_
      refine xp_67 K.1 (fun u8 u9 bu8 bu9 A10 => ?_)
      refine xi_getfield (pc' := 31) (v := .ref 69) kc_147_28 rfl rfl rfl A10 rfl ?_
      refine xi_aload_n (pc' := 32) (x := 66) kc_147_31 rfl rfl ?_
      refine xi_getfield (pc' := 35) (v := .ref 70) kc_147_32 rfl rfl rfl A3 rfl ?_
      refine xi_iload_n (pc' := 36) (x := x1) kc_147_35 rfl rfl ?_
      refine xi_iaload (pc' := 37) (v := v5) kc_147_36 rfl A4 (by decide) rfl (xi_in (by omega) (by rw [hy4]; omega)) ev5 ?_
      refine xcps4 (xk_arr K.1 xD_69) (fun y11 A11 hy11 ry11 => ?_)
      refine xcps4 (xj_get hy11 ry11 (i := v5) (by omega) (by omega)) (fun v12 ev12 bv12 dv12 => ?_)
      refine xi_iaload (pc' := 38) (v := v12) kc_147_37 rfl A11 (by decide) rfl (xi_in (by omega) (by rw [hy11]; omega)) ev12 ?_
      refine xi_istore_n (pc' := 39) (lv' := [(2, .int v12), (0, .ref 66), (1, .int x1)]) kc_147_38 rfl rfl (xm_lt ml_147 rfl) ?_
      refine xi_iload_n (pc' := 40) (x := v12) kc_147_39 rfl rfl ?_
      refine xi_aload_n (pc' := 41) (x := 66) kc_147_40 rfl rfl ?_
      refine xi_getfield (pc' := 44) (v := .ref 72) kc_147_41 rfl rfl rfl A3 rfl ?_
      refine xi_iload_n (pc' := 45) (x := x1) kc_147_44 rfl rfl ?_
      refine xcps4 (xk_arr K.1 xD_72) (fun y13 A13 hy13 ry13 => ?_)
      refine xcps4 (xj_get hy13 ry13 (i := x1) (by omega) (by omega)) (fun v14 ev14 bv14 dv14 => ?_)
      refine xi_iaload (pc' := 46) (v := v14) kc_147_45 rfl A13 (by decide) rfl (xi_in (by omega) (by rw [hy13]; omega)) ev14 ?_
      by_cases c15 : v14.toInt ≤ v12.toInt
      · refine xi_cmt (pc' := 58) kc_147_46 rfl (xc_ge_t (X := v12.toInt) (Y := v14.toInt) rfl rfl (by omega)) ?_
        refine xi_iload_n (pc' := 59) (x := v12) kc_147_58 rfl rfl ?_
        refine xi_aload_n (pc' := 60) (x := 66) kc_147_59 rfl rfl ?_
        refine xi_getfield (pc' := 63) (v := .ref 73) kc_147_60 rfl rfl rfl A3 rfl ?_
        refine xi_iload_n (pc' := 64) (x := x1) kc_147_63 rfl rfl ?_
        refine xcps4 (xk_arr K.1 xD_73) (fun y16 A16 hy16 ry16 => ?_)
        refine xcps4 (xj_get hy16 ry16 (i := x1) (by omega) (by omega)) (fun v17 ev17 bv17 dv17 => ?_)
        refine xi_iaload (pc' := 65) (v := v17) kc_147_64 rfl A16 (by decide) rfl (xi_in (by omega) (by rw [hy16]; omega)) ev17 ?_
        by_cases c18 : v12.toInt ≤ v17.toInt
        · refine xi_cmt (pc' := 79) kc_147_65 rfl (xc_le_t (X := v12.toInt) (Y := v17.toInt) rfl rfl (by omega)) ?_
          refine xi_iconst (pc' := 80) (v := 0) kc_147_79 rfl rfl ?_
          refine xi_ireturn kc_147_80 mr_147 rfl ?_
          have zc0 : (0 : Int32).toInt = 0 := by decide
          exact kk 0 h K
        · refine xi_cmf (pc' := 68) kc_147_65 rfl (xc_le_f (X := v12.toInt) (Y := v17.toInt) rfl rfl (by omega)) ?_
          refine xi_iload_n (pc' := 69) (x := v12) kc_147_68 rfl rfl ?_
          refine xi_aload_n (pc' := 70) (x := 66) kc_147_69 rfl rfl ?_
          refine xi_getfield (pc' := 73) (v := .ref 73) kc_147_70 rfl rfl rfl A3 rfl ?_
          refine xi_iload_n (pc' := 74) (x := x1) kc_147_73 rfl rfl ?_
          refine xi_iaload (pc' := 75) (v := v17) kc_147_74 rfl A16 (by decide) rfl (xi_in (by omega) (by rw [hy16]; omega)) ev17 ?_
          refine xcps2 (α := Int32) ((v12 : Int32) - v17) (fun v19 ev19 => ?_)
          have rv19 := xc_rng v19
          refine xi_isub (pc' := 76) (v := v19) kc_147_75 rfl ev19 ?_
          refine xi_goto (pc' := 80) kc_147_76 rfl ?_
          refine xi_ireturn kc_147_80 mr_147 rfl ?_
          exact kk v19 h K
      · refine xi_cmf (pc' := 49) kc_147_46 rfl (xc_ge_f (X := v12.toInt) (Y := v14.toInt) rfl rfl (by omega)) ?_
        refine xi_aload_n (pc' := 50) (x := 66) kc_147_49 rfl rfl ?_
        refine xi_getfield (pc' := 53) (v := .ref 72) kc_147_50 rfl rfl rfl A3 rfl ?_
        refine xi_iload_n (pc' := 54) (x := x1) kc_147_53 rfl rfl ?_
        refine xi_iaload (pc' := 55) (v := v14) kc_147_54 rfl A13 (by decide) rfl (xi_in (by omega) (by rw [hy13]; omega)) ev14 ?_
        refine xi_iload_n (pc' := 56) (x := v12) kc_147_55 rfl rfl ?_
        refine xcps2 (α := Int32) ((v14 : Int32) - v12) (fun v20 ev20 => ?_)
        have rv20 := xc_rng v20
        refine xi_isub (pc' := 57) (v := v20) kc_147_56 rfl ev20 ?_
        refine xi_ireturn kc_147_57 mr_147 rfl ?_
        exact kk v20 h K
set_option maxHeartbeats 4000000 in
theorem lp_146_0 {J : xe_J} {ov : List (List Int32)} (hJ : ∀ d mj as h, mj ≠ xe_loff → J d mj as h = none) (hov1 : ov[1]? = some [10, 0, 0, 0, 0, 0]) (hov2 : ov[2]? = some [99, 30, 50, 50, 1, 99999]) {d : Nat} {Q : Option Value → xe_H → Prop} {hb : xe_H} (kk : (∀ (r : Int64) (h' : xe_H), xk [(0, 9), (115, 1), (83, 0), (29, 0), (31, 0), (33, 0), (35, 0), (37, 0), (39, 0), (41, 0), (43, 0), (45, 0), (47, 0), (49, 0), (51, 0), (125, 0), (29, 2), (31, 2), (33, 2), (35, 2), (37, 2), (39, 2), (41, 2), (43, 2), (45, 2), (47, 2), (49, 2), (51, 2), (127, 0), (1, 5), (115, 23)] hb h' → Q (some (.long r)) h')) : ∀ m : Nat, (∀ (x1 : Int32) (w2 : Int64) (x4 : Int32) (x5 : Int32) (h : xe_H), (0 ≤ x1.toInt ∧ x1.toInt ≤ 63) → (0 ≤ x4.toInt ∧ x4.toInt ≤ 600) → (0 ≤ x5.toInt ∧ x5.toInt ≤ 60) → xk [(0, 9), (115, 1), (83, 0), (29, 0), (31, 0), (33, 0), (35, 0), (37, 0), (39, 0), (41, 0), (43, 0), (45, 0), (47, 0), (49, 0), (51, 0), (125, 0), (29, 2), (31, 2), (33, 2), (35, 2), (37, 2), (39, 2), (41, 2), (43, 2), (45, 2), (47, 2), (49, 2), (51, 2), (127, 0), (1, 5), (115, 23)] hb h → (-602) * x5.toInt + 36721 < (m : Int) → xw J ov (d + 5) 146 (53, [(0, .ref 66), (1, .int x1), (2, .long w2), (4, .int x4), (5, .int x5)], [], h) Q) ∧ (∀ (x1 : Int32) (w2 : Int64) (x5 : Int32) (x6 : Int32) (h : xe_H), (0 ≤ x1.toInt ∧ x1.toInt ≤ 63) → (0 ≤ x5.toInt ∧ x5.toInt ≤ 59) → (0 ≤ x6.toInt ∧ x6.toInt ≤ 600) → xk [(0, 9), (115, 1), (83, 0), (29, 0), (31, 0), (33, 0), (35, 0), (37, 0), (39, 0), (41, 0), (43, 0), (45, 0), (47, 0), (49, 0), (51, 0), (125, 0), (29, 2), (31, 2), (33, 2), (35, 2), (37, 2), (39, 2), (41, 2), (43, 2), (45, 2), (47, 2), (49, 2), (51, 2), (127, 0), (1, 5), (115, 23)] hb h → (-602) * x5.toInt + (-1) * x6.toInt + 36720 < (m : Int) → xw J ov (d + 5) 146 (73, [(0, .ref 66), (1, .int x1), (2, .long w2), (5, .int x5), (6, .int x6)], [], h) Q) := by
  intro m
  induction m with
  | zero =>
    refine ⟨?_, ?_⟩
    · intro x1 w2 x4 x5 h b1 b4 b5 K hm; exfalso; omega
    · intro x1 w2 x5 x6 h b1 b5 b6 K hm; exfalso; omega
  | succ m ih =>
    obtain ⟨i0, i1⟩ := ih
    refine ⟨?_, ?_⟩
    · intro x1 w2 x4 x5 h b1 b4 b5 K hm
      refine xi_iload (pc' := 55) (x := x5) kc_146_53 rfl rfl ?_
      refine xi_aload_n (pc' := 56) (x := 66) kc_146_55 rfl rfl ?_
      refine xp_66 K.1 (fun u2 wl1 bu2 A3 => ?_)
      refine xi_getfield (pc' := 59) (v := .int u2) kc_146_56 rfl rfl rfl A3 rfl ?_
      by_cases c4 : u2.toInt ≤ x5.toInt
      · refine xi_cmt (pc' := 129) kc_146_59 rfl (xc_ge_t (X := x5.toInt) (Y := u2.toInt) rfl rfl (by omega)) ?_
        refine xi_aload_n (pc' := 130) (x := 66) kc_146_129 rfl rfl ?_
        refine xi_getfield (pc' := 133) (v := .ref 74) kc_146_130 rfl rfl rfl A3 rfl ?_
        refine xi_iload_n (pc' := 134) (x := x1) kc_146_133 rfl rfl ?_
        refine xi_lload_n (pc' := 135) (x := w2) kc_146_134 rfl rfl ?_
        obtain ⟨y5, A5, hy5⟩ := xk_larr K.1 xD_74
        obtain ⟨y6, s6, hy6⟩ := xj_lset (v := w2) hy5 x1
        refine xi_lastore (pc' := 136) (x' := y6) kc_146_135 rfl A5 rfl (xi_in (by omega) (by rw [hy5]; omega)) s6 (fun hh6 eh6 => ?_)
        have K7 := xk_pla K (xk_wa rfl) xD_74 hy6 eh6
        refine xi_aload_n (pc' := 137) (x := 66) kc_146_136 rfl rfl ?_
        refine xi_dup (pc' := 138) kc_146_137 rfl rfl ?_
        have A8 := ((eh6.2.1 66 (by decide)).trans A3)
        refine xi_getfield (pc' := 141) (v := .long wl1) kc_146_138 rfl rfl rfl A8 rfl ?_
        refine xi_lconst (pc' := 142) (v := 1) kc_146_141 rfl rfl ?_
        refine xi_iload_n (pc' := 143) (x := x1) kc_146_142 rfl rfl ?_
        refine xcps2 (α := Int64) ((1 : Int64) <<< ((x1 : Int32).toInt64 &&& 63)) (fun v9 ev9 => ?_)
        refine xi_lshl (pc' := 144) (v := v9) kc_146_143 rfl ev9 ?_
        refine xcps2 (α := Int64) ((wl1 : Int64) ||| v9) (fun v10 ev10 => ?_)
        refine xi_lor (pc' := 145) (v := v10) kc_146_144 rfl ev10 ?_
        refine xi_putfield (pc' := 148) (fs' := [.ref 1, .ref 67, .ref 70, .ref 71, .ref 72, .ref 73, .ref 74, .long v10, .int u2]) kc_146_145 rfl rfl rfl A8 rfl rfl rfl (Nat.le_of_ble_eq_true rfl) rfl (fun hh12 eh11 => ?_)
        have K13 := xk_pl (k := 7) (v := v10) K7 (xk_wf rfl) xD_66 A8 rfl eh11 rfl
        refine xi_lload_n (pc' := 149) (x := w2) kc_146_148 rfl rfl ?_
        refine xi_lreturn kc_146_149 mr_146 ?_
        exact kk w2 hh12 K13
      · refine xi_cmf (pc' := 62) kc_146_59 rfl (xc_ge_f (X := x5.toInt) (Y := u2.toInt) rfl rfl (by omega)) ?_
        refine xi_iload (pc' := 64) (x := x5) kc_146_62 rfl rfl ?_
        refine xi_bipush (pc' := 66) (v := 60) kc_146_64 rfl rfl ?_
        refine xi_cmf (pc' := 69) kc_146_66 rfl (xc_ge_f (X := x5.toInt) (Y := 60) rfl (by decide) (by omega)) ?_
        refine xi_iload (pc' := 71) (x := x4) kc_146_69 rfl rfl ?_
        refine xi_istore (pc' := 73) (lv' := [(6, .int x4), (0, .ref 66), (1, .int x1), (2, .long w2), (4, .int x4), (5, .int x5)]) kc_146_71 rfl rfl (xm_lt ml_146 rfl) ?_
        refine xw_lv (b := [(0, .ref 66), (1, .int x1), (2, .long w2), (5, .int x5), (6, .int x4)]) (lvS_cons (lvS_cons (lvS_cons (lvS_cons (lvS_cons (lvS_nil (show ([6, 0, 1, 2, 4, 5] : List Nat).Nodup by decide)) rfl) rfl) rfl) rfl) rfl) ?_
        exact i1 x1 w2 x5 x4 h (by omega) (by omega) (by omega) K (by omega)
    · intro x1 w2 x5 x6 h b1 b5 b6 K hm
      refine xi_iload (pc' := 75) (x := x6) kc_146_73 rfl rfl ?_
      refine xi_aload_n (pc' := 76) (x := 66) kc_146_75 rfl rfl ?_
      refine xp_66 K.1 (fun u2 wl1 bu2 A3 => ?_)
      refine xi_getfield (pc' := 79) (v := .ref 71) kc_146_76 rfl rfl rfl A3 rfl ?_
      refine xi_iload (pc' := 81) (x := x5) kc_146_79 rfl rfl ?_
      refine xcps4 (xk_arr K.1 xD_71) (fun y4 A4 hy4 ry4 => ?_)
      refine xcps4 (xj_get hy4 ry4 (i := x5) (by omega) (by omega)) (fun v5 ev5 bv5 dv5 => ?_)
      refine xi_iaload (pc' := 82) (v := v5) kc_146_81 rfl A4 (by decide) rfl (xi_in (by omega) (by rw [hy4]; omega)) ev5 ?_
      by_cases c6 : v5.toInt ≤ x6.toInt
      · refine xi_cmt (pc' := 104) kc_146_82 rfl (xc_ge_t (X := x6.toInt) (Y := v5.toInt) rfl rfl (by omega)) ?_
        refine xi_aload_n (pc' := 105) (x := 66) kc_146_104 rfl rfl ?_
        refine xi_getfield (pc' := 108) (v := .ref 71) kc_146_105 rfl rfl rfl A3 rfl ?_
        refine xi_iload (pc' := 110) (x := x5) kc_146_108 rfl rfl ?_
        refine xi_iaload (pc' := 111) (v := v5) kc_146_110 rfl A4 (by decide) rfl (xi_in (by omega) (by rw [hy4]; omega)) ev5 ?_
        refine xi_istore (pc' := 113) (lv' := [(4, .int v5), (0, .ref 66), (1, .int x1), (2, .long w2), (5, .int x5), (6, .int x6)]) kc_146_111 rfl rfl (xm_lt ml_146 rfl) ?_
        refine xi_lload_n (pc' := 114) (x := w2) kc_146_113 rfl rfl ?_
        refine xi_aload_n (pc' := 115) (x := 66) kc_146_114 rfl rfl ?_
        refine xi_iload (pc' := 117) (x := x5) kc_146_115 rfl rfl ?_
        refine xi_virtual (mj := 147) (as := [.int x5]) (st1 := [.long w2]) (lv0 := [(0, .ref 66), (1, .int x5)]) kc_146_117 rfl rfl rfl rfl rfl A3 (Nat.le_of_ble_eq_true rfl) (hJ _ _ _ _ (by decide)) (xm_le ml_147 rfl) rfl ?_
        refine mt_147_0 hJ hov1 hov2 (d := d + 3) (x1 := x5) K.1 (by first | omega | decide) (fun r7 hh8 K9 => ?_)
        have br7 := xc_rng r7
        have K10 := xk_tr K K9 rfl
        show xw J ov (d + 5) 146 (120, [(4, .int v5), (0, .ref 66), (1, .int x1), (2, .long w2), (5, .int x5), (6, .int x6)], [.int r7, .long w2], hh8) _
        obtain ⟨v11, ev11⟩ : ∃ q, (r7 : Int32).toInt64 = q := ⟨_, rfl⟩
        refine xi_i2l (pc' := 121) (v := v11) kc_146_120 rfl ev11 ?_
        refine xcps2 (α := Int64) ((w2 : Int64) + v11) (fun v12 ev12 => ?_)
        refine xi_ladd (pc' := 122) (v := v12) kc_146_121 rfl ev12 ?_
        refine xi_lstore_n (pc' := 123) (lv' := [(2, .long v12), (4, .int v5), (0, .ref 66), (1, .int x1), (5, .int x5), (6, .int x6)]) kc_146_122 rfl rfl (xm_lt ml_146 rfl) ?_
        refine xcps2 (α := Int32) (x5 + 1) (fun v13 ev13 => ?_)
        have zv13 : v13.toInt = (x5.toInt + 1) := by rw [← ev13]; exact (xz_add (X := x5.toInt) (Y := 1) rfl (by decide) (by omega) (by omega)).trans (by omega)
        refine xi_iinc (pc' := 126) (x := x5) (v := v13) (lv' := [(5, .int v13), (2, .long v12), (4, .int v5), (0, .ref 66), (1, .int x1), (6, .int x6)]) kc_146_123 rfl rfl ev13 rfl (xm_lt ml_146 rfl) ?_
        refine xi_goto (pc' := 53) kc_146_126 rfl ?_
        refine xw_lv (b := [(0, .ref 66), (1, .int x1), (2, .long v12), (4, .int v5), (5, .int v13)]) (lvS_cons (lvS_cons (lvS_cons (lvS_cons (lvS_cons (lvS_nil (show ([5, 2, 4, 0, 1, 6] : List Nat).Nodup by decide)) rfl) rfl) rfl) rfl) rfl) ?_
        exact i0 x1 v12 v5 v13 hh8 (by omega) (by omega) (by omega) K10 (by omega)
      · refine xi_cmf (pc' := 85) kc_146_82 rfl (xc_ge_f (X := x6.toInt) (Y := v5.toInt) rfl rfl (by omega)) ?_
        refine xi_aload_n (pc' := 86) (x := 66) kc_146_85 rfl rfl ?_
        refine xi_getfield (pc' := 89) (v := .ref 1) kc_146_86 rfl rfl rfl A3 rfl ?_
        refine xi_aload_n (pc' := 90) (x := 66) kc_146_89 rfl rfl ?_
        refine xi_getfield (pc' := 93) (v := .ref 67) kc_146_90 rfl rfl rfl A3 rfl ?_
        refine xi_iload (pc' := 95) (x := x6) kc_146_93 rfl rfl ?_
        refine xp_1 K.1 (fun u14 u15 bu14 bu15 A16 => ?_)
        refine xi_virtual (mj := 124) (as := [.ref 67, .int x6]) (st1 := []) (lv0 := [(0, .ref 1), (1, .ref 67), (2, .int x6)]) kc_146_95 rfl rfl rfl rfl rfl A16 (Nat.le_of_ble_eq_true rfl) (hJ _ _ _ _ (by decide)) (xm_le ml_124 rfl) rfl ?_
        refine mt_124_1 hJ hov1 hov2 (d := d) (x2 := x6) K.1 (by first | omega | decide) (fun hh18 K19 => ?_)
        have K20 := xk_tr K K19 rfl
        refine xp_1 K20.1 (fun u21 u22 bu21 bu22 A23 => ?_)
        have e24 : u14 = u21 := xk_eqi (q := 5) K19 rfl A16 A23 rfl rfl
        subst e24
        show xw J ov (d + 5) 146 (98, [(0, .ref 66), (1, .int x1), (2, .long w2), (5, .int x5), (6, .int x6)], [], hh18) _
        refine xcps2 (α := Int32) (x6 + 1) (fun v25 ev25 => ?_)
        have zv25 : v25.toInt = (x6.toInt + 1) := by rw [← ev25]; exact (xz_add (X := x6.toInt) (Y := 1) rfl (by decide) (by omega) (by omega)).trans (by omega)
        refine xi_iinc (pc' := 101) (x := x6) (v := v25) (lv' := [(6, .int v25), (0, .ref 66), (1, .int x1), (2, .long w2), (5, .int x5)]) kc_146_98 rfl rfl ev25 rfl (xm_lt ml_146 rfl) ?_
        refine xi_goto (pc' := 73) kc_146_101 rfl ?_
        refine xw_lv (b := [(0, .ref 66), (1, .int x1), (2, .long w2), (5, .int x5), (6, .int v25)]) (lvS_cons (lvS_cons (lvS_cons (lvS_cons (lvS_cons (lvS_nil (show ([6, 0, 1, 2, 5] : List Nat).Nodup by decide)) rfl) rfl) rfl) rfl) rfl) ?_
        exact i1 x1 w2 x5 v25 hh18 (by omega) (by omega) (by omega) K20 (by omega)
set_option maxHeartbeats 4000000 in
theorem mt_146_0 {J : xe_J} {ov : List (List Int32)} (hJ : ∀ d mj as h, mj ≠ xe_loff → J d mj as h = none) (hov1 : ov[1]? = some [10, 0, 0, 0, 0, 0]) (hov2 : ov[2]? = some [99, 30, 50, 50, 1, 99999]) {d : Nat} {Q : Option Value → xe_H → Prop} {h : xe_H} {x1 : Int32} (T : xt h) (kk : (∀ (r : Int64) (h' : xe_H), xk [(0, 9), (115, 1), (83, 0), (29, 0), (31, 0), (33, 0), (35, 0), (37, 0), (39, 0), (41, 0), (43, 0), (45, 0), (47, 0), (49, 0), (51, 0), (125, 0), (29, 2), (31, 2), (33, 2), (35, 2), (37, 2), (39, 2), (41, 2), (43, 2), (45, 2), (47, 2), (49, 2), (51, 2), (127, 0), (1, 5), (115, 23)] h h' → Q (some (.long r)) h')) : xw J ov (d + 5) 146 (0, [(0, .ref 66), (1, .int x1)], [], h) Q := by
  have K : xk [(0, 9), (115, 1), (83, 0), (29, 0), (31, 0), (33, 0), (35, 0), (37, 0), (39, 0), (41, 0), (43, 0), (45, 0), (47, 0), (49, 0), (51, 0), (125, 0), (29, 2), (31, 2), (33, 2), (35, 2), (37, 2), (39, 2), (41, 2), (43, 2), (45, 2), (47, 2), (49, 2), (51, 2), (127, 0), (1, 5), (115, 23)] h h := xk_re T
  have rx1 := xc_rng x1
  refine xi_aload_n (pc' := 1) (x := 66) kc_146_0 rfl rfl ?_
  refine xi_iload_n (pc' := 2) (x := x1) kc_146_1 rfl rfl ?_
  refine xp_66 K.1 (fun u2 wl1 bu2 A3 => ?_)
  refine xi_virtual (mj := 138) (as := [.int x1]) (st1 := []) (lv0 := [(0, .ref 66), (1, .int x1)]) kc_146_2 rfl rfl rfl rfl rfl A3 (Nat.le_of_ble_eq_true rfl) (hJ _ _ _ _ (by decide)) (xm_le ml_138 rfl) rfl ?_
  refine xi_iload_n (pc' := 1) (x := x1) kc_138_0 rfl rfl ?_
  by_cases c4 : x1.toInt < 0
  · refine xi_ift (pc' := 16) kc_138_1 rfl (xc_lt_t (X := x1.toInt) (Y := 0) rfl (by decide) (by omega)) ?_
    refine xi_iconst (pc' := 17) (v := 0) kc_138_16 rfl rfl ?_
    refine xi_ireturn kc_138_17 mr_138 rfl ?_
    show xw J ov (d + 5) 146 (5, [(0, .ref 66), (1, .int x1)], [.int 0], h) _
    refine xi_iff (pc' := 8) kc_146_5 rfl rfl ?_
    refine xi_lconst (pc' := 9) (v := 0) kc_146_8 rfl rfl ?_
    refine xi_lreturn kc_146_9 mr_146 ?_
    exact kk 0 h K
  · refine xi_iff (pc' := 4) kc_138_1 rfl (xc_lt_f (X := x1.toInt) (Y := 0) rfl (by decide) (by omega)) ?_
    refine xi_iload_n (pc' := 5) (x := x1) kc_138_4 rfl rfl ?_
    refine xi_aload_n (pc' := 6) (x := 66) kc_138_5 rfl rfl ?_
    refine xi_virtual (mj := 139) (as := []) (st1 := [.int x1]) (lv0 := [(0, .ref 66)]) kc_138_6 rfl rfl rfl rfl rfl A3 (Nat.le_of_ble_eq_true rfl) (hJ _ _ _ _ (by decide)) (xm_le ml_139 rfl) rfl ?_
    refine xi_iconst (pc' := 1) (v := 1) kc_139_0 rfl rfl ?_
    refine xi_aload_n (pc' := 2) (x := 66) kc_139_1 rfl rfl ?_
    refine xi_getfield (pc' := 5) (v := .ref 1) kc_139_2 rfl rfl rfl A3 rfl ?_
    refine xp_1 K.1 (fun u5 u6 bu5 bu6 A7 => ?_)
    refine xi_virtual (mj := 140) (as := []) (st1 := [.int 1]) (lv0 := [(0, .ref 1)]) kc_139_5 rfl rfl rfl rfl rfl A7 (Nat.le_of_ble_eq_true rfl) (hJ _ _ _ _ (by decide)) (xm_le ml_140 rfl) rfl ?_
    refine xi_aload_n (pc' := 1) (x := 1) kc_140_0 rfl rfl ?_
    refine xi_getfield (pc' := 4) (v := .int u5) kc_140_1 rfl rfl rfl A7 rfl ?_
    refine xi_bipush (pc' := 6) (v := 6) kc_140_4 rfl rfl ?_
    by_cases c8 : 6 ≤ u5.toInt
    · refine xi_cmt (pc' := 16) kc_140_6 rfl (xc_ge_t (X := u5.toInt) (Y := 6) rfl (by decide) (by omega)) ?_
      refine xi_bipush (pc' := 18) (v := 6) kc_140_16 rfl rfl ?_
      refine xi_ireturn kc_140_18 mr_140 rfl ?_
      show xw J ov (d + 3) 139 (8, [(0, .ref 66)], [.int 6, .int 1], h) _
      refine xi_ishl (pc' := 9) (v := 64) kc_139_8 rfl rfl ?_
      refine xi_ireturn kc_139_9 mr_139 rfl ?_
      show xw J ov (d + 4) 138 (9, [(0, .ref 66), (1, .int x1)], [.int 64, .int x1], h) _
      by_cases c9 : 64 ≤ x1.toInt
      · refine xi_cmt (pc' := 16) kc_138_9 rfl (xc_ge_t (X := x1.toInt) (Y := 64) rfl (by decide) (by omega)) ?_
        refine xi_iconst (pc' := 17) (v := 0) kc_138_16 rfl rfl ?_
        refine xi_ireturn kc_138_17 mr_138 rfl ?_
        show xw J ov (d + 5) 146 (5, [(0, .ref 66), (1, .int x1)], [.int 0], h) _
        refine xi_iff (pc' := 8) kc_146_5 rfl rfl ?_
        refine xi_lconst (pc' := 9) (v := 0) kc_146_8 rfl rfl ?_
        refine xi_lreturn kc_146_9 mr_146 ?_
        exact kk 0 h K
      · refine xi_cmf (pc' := 12) kc_138_9 rfl (xc_ge_f (X := x1.toInt) (Y := 64) rfl (by decide) (by omega)) ?_
        refine xi_iconst (pc' := 13) (v := 1) kc_138_12 rfl rfl ?_
        refine xi_goto (pc' := 17) kc_138_13 rfl ?_
        refine xi_ireturn kc_138_17 mr_138 rfl ?_
        show xw J ov (d + 5) 146 (5, [(0, .ref 66), (1, .int x1)], [.int 1], h) _
        refine xi_ift (pc' := 10) kc_146_5 rfl rfl ?_
        refine xi_aload_n (pc' := 11) (x := 66) kc_146_10 rfl rfl ?_
        refine xi_getfield (pc' := 14) (v := .long wl1) kc_146_11 rfl rfl rfl A3 rfl ?_
        refine xi_iload_n (pc' := 15) (x := x1) kc_146_14 rfl rfl ?_
        refine xcps2 (α := Int64) ((wl1 : Int64) >>> ((x1 : Int32).toInt64 &&& 63)) (fun v10 ev10 => ?_)
        refine xi_lshr (pc' := 16) (v := v10) kc_146_15 rfl ev10 ?_
        refine xi_lconst (pc' := 17) (v := 1) kc_146_16 rfl rfl ?_
        refine xcps2 (α := Int64) ((v10 : Int64) &&& 1) (fun v11 ev11 => ?_)
        refine xi_land (pc' := 18) (v := v11) kc_146_17 rfl ev11 ?_
        refine xi_lconst (pc' := 19) (v := 0) kc_146_18 rfl rfl ?_
        refine xcps2 (α := Int32) (lg_cmp v11 0) (fun v12 ev12 => ?_)
        have rv12 := xc_rng v12
        refine xi_lcmp (pc' := 20) (v := v12) kc_146_19 rfl ev12 ?_
        by_cases c13 : v12.toInt = 0
        · refine xi_ift (pc' := 30) kc_146_20 rfl (xc_eq_t (X := v12.toInt) (Y := 0) rfl (by decide) (by omega)) ?_
          refine xi_aload_n (pc' := 31) (x := 66) kc_146_30 rfl rfl ?_
          refine xi_getfield (pc' := 34) (v := .ref 67) kc_146_31 rfl rfl rfl A3 rfl ?_
          refine xi_iload_n (pc' := 35) (x := x1) kc_146_34 rfl rfl ?_
          refine xi_aload_n (pc' := 36) (x := 66) kc_146_35 rfl rfl ?_
          refine xi_getfield (pc' := 39) (v := .ref 1) kc_146_36 rfl rfl rfl A3 rfl ?_
          refine xi_virtual (mj := 142) (as := []) (st1 := [.int x1, .ref 67]) (lv0 := [(0, .ref 1)]) kc_146_39 rfl rfl rfl rfl rfl A7 (Nat.le_of_ble_eq_true rfl) (hJ _ _ _ _ (by decide)) (xm_le ml_142 rfl) rfl ?_
          refine mt_142_0 hJ hov1 hov2 (d := d + 2)  K.1 (fun r14 hh15 K16 => ?_)
          have br14 := xc_rng r14
          have K17 := xk_tr K K16 rfl
          refine xp_1 K17.1 (fun u18 u19 bu18 bu19 A20 => ?_)
          have e21 : u5 = u18 := xk_eqi (q := 5) K16 rfl A7 A20 rfl rfl
          subst e21
          show xw J ov (d + 5) 146 (42, [(0, .ref 66), (1, .int x1)], [.int r14, .int x1, .ref 67], hh15) _
          refine xp_67 K17.1 (fun u22 u23 bu22 bu23 A24 => ?_)
          refine xi_virtual (mj := 143) (as := [.int x1, .int r14]) (st1 := []) (lv0 := [(0, .ref 67), (1, .int x1), (2, .int r14)]) kc_146_42 rfl rfl rfl rfl rfl A24 (Nat.le_of_ble_eq_true rfl) (hJ _ _ _ _ (by decide)) (xm_le ml_143 rfl) rfl ?_
          refine mt_143_0 hJ hov1 hov2 (d := d + 3) (x1 := x1) (x2 := r14) K17.1 (by first | omega | decide) (fun hh26 K27 => ?_)
          have K28 := xk_tr K17 K27 rfl
          refine xp_1 K28.1 (fun u29 u30 bu29 bu30 A31 => ?_)
          have e32 : u5 = u29 := xk_eqi (q := 5) K27 rfl A20 A31 rfl rfl
          subst e32
          show xw J ov (d + 5) 146 (45, [(0, .ref 66), (1, .int x1)], [], hh26) _
          refine xi_lconst (pc' := 46) (v := 0) kc_146_45 rfl rfl ?_
          refine xi_lstore_n (pc' := 47) (lv' := [(2, .long 0), (0, .ref 66), (1, .int x1)]) kc_146_46 rfl rfl (xm_lt ml_146 rfl) ?_
          refine xi_iconst (pc' := 48) (v := 0) kc_146_47 rfl rfl ?_
          refine xi_istore (pc' := 50) (lv' := [(4, .int 0), (2, .long 0), (0, .ref 66), (1, .int x1)]) kc_146_48 rfl rfl (xm_lt ml_146 rfl) ?_
          refine xi_iconst (pc' := 51) (v := 0) kc_146_50 rfl rfl ?_
          refine xi_istore (pc' := 53) (lv' := [(5, .int 0), (4, .int 0), (2, .long 0), (0, .ref 66), (1, .int x1)]) kc_146_51 rfl rfl (xm_lt ml_146 rfl) ?_
          have zc0 : (0 : Int32).toInt = 0 := by decide
          refine xw_lv (b := [(0, .ref 66), (1, .int x1), (2, .long 0), (4, .int 0), (5, .int 0)]) (lvS_cons (lvS_cons (lvS_cons (lvS_cons (lvS_cons (lvS_nil (show ([5, 4, 2, 0, 1] : List Nat).Nodup by decide)) rfl) rfl) rfl) rfl) rfl) ?_
          exact (lp_146_0 hJ hov1 hov2 (d := d) (hb := hh26) (fun r9 h9 K9 => kk r9 h9 (xk_tr K28 K9 rfl)) 36722).1 x1 0 0 0 hh26 (by omega) (by omega) (by omega) (xk_re K28.1) (by omega)
        · have zv11c13 : v11 ≠ 0 := xj_lc ev12 (by omega)
          refine xi_iff (pc' := 23) kc_146_20 rfl (xc_eq_f (X := v12.toInt) (Y := 0) rfl (by decide) (by omega)) ?_
          refine xi_aload_n (pc' := 24) (x := 66) kc_146_23 rfl rfl ?_
          refine xi_getfield (pc' := 27) (v := .ref 74) kc_146_24 rfl rfl rfl A3 rfl ?_
          refine xi_iload_n (pc' := 28) (x := x1) kc_146_27 rfl rfl ?_
          obtain ⟨y33, A33, hy33⟩ := xk_larr K.1 xD_74
          refine xcps2 (α := Int64) (y33.getD (Int32.toNatClampNeg x1) 0) (fun v34 ev34 => ?_)
          refine xi_laload (pc' := 29) (v := v34) kc_146_28 rfl A33 rfl (xi_in (by omega) (by rw [hy33]; omega)) ev34 ?_
          refine xi_lreturn kc_146_29 mr_146 ?_
          exact kk v34 h K
    · refine xi_cmf (pc' := 9) kc_140_6 rfl (xc_ge_f (X := u5.toInt) (Y := 6) rfl (by decide) (by omega)) ?_
      refine xi_aload_n (pc' := 10) (x := 1) kc_140_9 rfl rfl ?_
      refine xi_getfield (pc' := 13) (v := .int u5) kc_140_10 rfl rfl rfl A7 rfl ?_
      refine xi_goto (pc' := 18) kc_140_13 rfl ?_
      refine xi_ireturn kc_140_18 mr_140 rfl ?_
      show xw J ov (d + 3) 139 (8, [(0, .ref 66)], [.int u5, .int 1], h) _
      refine xcps2 (α := Int32) ((1 : Int32) <<< (u5 &&& 31)) (fun v35 ev35 => ?_)
      have rv35 := xc_rng v35
      have bv35 : 1 ≤ v35.toInt ∧ v35.toInt ≤ 64 := by rw [← ev35]; exact xj_shl6 (by omega) (by omega)
      refine xi_ishl (pc' := 9) (v := v35) kc_139_8 rfl ev35 ?_
      refine xi_ireturn kc_139_9 mr_139 rfl ?_
      show xw J ov (d + 4) 138 (9, [(0, .ref 66), (1, .int x1)], [.int v35, .int x1], h) _
      by_cases c36 : v35.toInt ≤ x1.toInt
      · refine xi_cmt (pc' := 16) kc_138_9 rfl (xc_ge_t (X := x1.toInt) (Y := v35.toInt) rfl rfl (by omega)) ?_
        refine xi_iconst (pc' := 17) (v := 0) kc_138_16 rfl rfl ?_
        refine xi_ireturn kc_138_17 mr_138 rfl ?_
        show xw J ov (d + 5) 146 (5, [(0, .ref 66), (1, .int x1)], [.int 0], h) _
        refine xi_iff (pc' := 8) kc_146_5 rfl rfl ?_
        refine xi_lconst (pc' := 9) (v := 0) kc_146_8 rfl rfl ?_
        refine xi_lreturn kc_146_9 mr_146 ?_
        exact kk 0 h K
      · refine xi_cmf (pc' := 12) kc_138_9 rfl (xc_ge_f (X := x1.toInt) (Y := v35.toInt) rfl rfl (by omega)) ?_
        refine xi_iconst (pc' := 13) (v := 1) kc_138_12 rfl rfl ?_
        refine xi_goto (pc' := 17) kc_138_13 rfl ?_
        refine xi_ireturn kc_138_17 mr_138 rfl ?_
        show xw J ov (d + 5) 146 (5, [(0, .ref 66), (1, .int x1)], [.int 1], h) _
        refine xi_ift (pc' := 10) kc_146_5 rfl rfl ?_
        refine xi_aload_n (pc' := 11) (x := 66) kc_146_10 rfl rfl ?_
        refine xi_getfield (pc' := 14) (v := .long wl1) kc_146_11 rfl rfl rfl A3 rfl ?_
        refine xi_iload_n (pc' := 15) (x := x1) kc_146_14 rfl rfl ?_
        refine xcps2 (α := Int64) ((wl1 : Int64) >>> ((x1 : Int32).toInt64 &&& 63)) (fun v37 ev37 => ?_)
        refine xi_lshr (pc' := 16) (v := v37) kc_146_15 rfl ev37 ?_
        refine xi_lconst (pc' := 17) (v := 1) kc_146_16 rfl rfl ?_
        refine xcps2 (α := Int64) ((v37 : Int64) &&& 1) (fun v38 ev38 => ?_)
        refine xi_land (pc' := 18) (v := v38) kc_146_17 rfl ev38 ?_
        refine xi_lconst (pc' := 19) (v := 0) kc_146_18 rfl rfl ?_
        refine xcps2 (α := Int32) (lg_cmp v38 0) (fun v39 ev39 => ?_)
        have rv39 := xc_rng v39
        refine xi_lcmp (pc' := 20) (v := v39) kc_146_19 rfl ev39 ?_
        by_cases c40 : v39.toInt = 0
        · refine xi_ift (pc' := 30) kc_146_20 rfl (xc_eq_t (X := v39.toInt) (Y := 0) rfl (by decide) (by omega)) ?_
          refine xi_aload_n (pc' := 31) (x := 66) kc_146_30 rfl rfl ?_
          refine xi_getfield (pc' := 34) (v := .ref 67) kc_146_31 rfl rfl rfl A3 rfl ?_
          refine xi_iload_n (pc' := 35) (x := x1) kc_146_34 rfl rfl ?_
          refine xi_aload_n (pc' := 36) (x := 66) kc_146_35 rfl rfl ?_
          refine xi_getfield (pc' := 39) (v := .ref 1) kc_146_36 rfl rfl rfl A3 rfl ?_
          refine xi_virtual (mj := 142) (as := []) (st1 := [.int x1, .ref 67]) (lv0 := [(0, .ref 1)]) kc_146_39 rfl rfl rfl rfl rfl A7 (Nat.le_of_ble_eq_true rfl) (hJ _ _ _ _ (by decide)) (xm_le ml_142 rfl) rfl ?_
          refine mt_142_0 hJ hov1 hov2 (d := d + 2)  K.1 (fun r41 hh42 K43 => ?_)
          have br41 := xc_rng r41
          have K44 := xk_tr K K43 rfl
          refine xp_1 K44.1 (fun u45 u46 bu45 bu46 A47 => ?_)
          have e48 : u5 = u45 := xk_eqi (q := 5) K43 rfl A7 A47 rfl rfl
          subst e48
          show xw J ov (d + 5) 146 (42, [(0, .ref 66), (1, .int x1)], [.int r41, .int x1, .ref 67], hh42) _
          refine xp_67 K44.1 (fun u49 u50 bu49 bu50 A51 => ?_)
          refine xi_virtual (mj := 143) (as := [.int x1, .int r41]) (st1 := []) (lv0 := [(0, .ref 67), (1, .int x1), (2, .int r41)]) kc_146_42 rfl rfl rfl rfl rfl A51 (Nat.le_of_ble_eq_true rfl) (hJ _ _ _ _ (by decide)) (xm_le ml_143 rfl) rfl ?_
          refine mt_143_0 hJ hov1 hov2 (d := d + 3) (x1 := x1) (x2 := r41) K44.1 (by first | omega | decide) (fun hh53 K54 => ?_)
          have K55 := xk_tr K44 K54 rfl
          refine xp_1 K55.1 (fun u56 u57 bu56 bu57 A58 => ?_)
          have e59 : u5 = u56 := xk_eqi (q := 5) K54 rfl A47 A58 rfl rfl
          subst e59
          show xw J ov (d + 5) 146 (45, [(0, .ref 66), (1, .int x1)], [], hh53) _
          refine xi_lconst (pc' := 46) (v := 0) kc_146_45 rfl rfl ?_
          refine xi_lstore_n (pc' := 47) (lv' := [(2, .long 0), (0, .ref 66), (1, .int x1)]) kc_146_46 rfl rfl (xm_lt ml_146 rfl) ?_
          refine xi_iconst (pc' := 48) (v := 0) kc_146_47 rfl rfl ?_
          refine xi_istore (pc' := 50) (lv' := [(4, .int 0), (2, .long 0), (0, .ref 66), (1, .int x1)]) kc_146_48 rfl rfl (xm_lt ml_146 rfl) ?_
          refine xi_iconst (pc' := 51) (v := 0) kc_146_50 rfl rfl ?_
          refine xi_istore (pc' := 53) (lv' := [(5, .int 0), (4, .int 0), (2, .long 0), (0, .ref 66), (1, .int x1)]) kc_146_51 rfl rfl (xm_lt ml_146 rfl) ?_
          have zc0 : (0 : Int32).toInt = 0 := by decide
          refine xw_lv (b := [(0, .ref 66), (1, .int x1), (2, .long 0), (4, .int 0), (5, .int 0)]) (lvS_cons (lvS_cons (lvS_cons (lvS_cons (lvS_cons (lvS_nil (show ([5, 4, 2, 0, 1] : List Nat).Nodup by decide)) rfl) rfl) rfl) rfl) rfl) ?_
          exact (lp_146_0 hJ hov1 hov2 (d := d) (hb := hh53) (fun r9 h9 K9 => kk r9 h9 (xk_tr K55 K9 rfl)) 36722).1 x1 0 0 0 hh53 (by omega) (by omega) (by omega) (xk_re K55.1) (by omega)
        · have zv38c40 : v38 ≠ 0 := xj_lc ev39 (by omega)
          refine xi_iff (pc' := 23) kc_146_20 rfl (xc_eq_f (X := v39.toInt) (Y := 0) rfl (by decide) (by omega)) ?_
          refine xi_aload_n (pc' := 24) (x := 66) kc_146_23 rfl rfl ?_
          refine xi_getfield (pc' := 27) (v := .ref 74) kc_146_24 rfl rfl rfl A3 rfl ?_
          refine xi_iload_n (pc' := 28) (x := x1) kc_146_27 rfl rfl ?_
          obtain ⟨y60, A60, hy60⟩ := xk_larr K.1 xD_74
          refine xcps2 (α := Int64) (y60.getD (Int32.toNatClampNeg x1) 0) (fun v61 ev61 => ?_)
          refine xi_laload (pc' := 29) (v := v61) kc_146_28 rfl A60 rfl (xi_in (by omega) (by rw [hy60]; omega)) ev61 ?_
          refine xi_lreturn kc_146_29 mr_146 ?_
          exact kk v61 h K
set_option maxHeartbeats 4000000 in
theorem mt_4_0 {J : xe_J} {ov : List (List Int32)} (hJ : ∀ d mj as h, mj ≠ xe_loff → J d mj as h = none) (hov1 : ov[1]? = some [10, 0, 0, 0, 0, 0]) (hov2 : ov[2]? = some [99, 30, 50, 50, 1, 99999]) {d : Nat} {Q : Option Value → xe_H → Prop} {h : xe_H} {x0 : Int32} (T : xt h) (kk : (∀ (r : Int32) (h' : xe_H), xk [(0, 9), (115, 1), (83, 0), (29, 0), (31, 0), (33, 0), (35, 0), (37, 0), (39, 0), (41, 0), (43, 0), (45, 0), (47, 0), (49, 0), (51, 0), (125, 0), (29, 2), (31, 2), (33, 2), (35, 2), (37, 2), (39, 2), (41, 2), (43, 2), (45, 2), (47, 2), (49, 2), (51, 2), (127, 0), (1, 5), (115, 23)] h h' → Q (some (.int r)) h')) : xw J ov (d + 1) 4 (0, [(0, .int x0)], [], h) Q := by
  have K : xk [(0, 9), (115, 1), (83, 0), (29, 0), (31, 0), (33, 0), (35, 0), (37, 0), (39, 0), (41, 0), (43, 0), (45, 0), (47, 0), (49, 0), (51, 0), (125, 0), (29, 2), (31, 2), (33, 2), (35, 2), (37, 2), (39, 2), (41, 2), (43, 2), (45, 2), (47, 2), (49, 2), (51, 2), (127, 0), (1, 5), (115, 23)] h h := xk_re T
  have rx0 := xc_rng x0
  refine xi_iload_n (pc' := 1) (x := x0) kc_4_0 rfl rfl ?_
  refine xi_iload_n (pc' := 2) (x := x0) kc_4_1 rfl rfl ?_
  refine xi_iconst (pc' := 3) (v := 1) kc_4_2 rfl rfl ?_
  refine xcps2 (α := Int32) (((x0 : Int32).toUInt32 >>> ((1 : Int32).toUInt32 &&& Int32.toUInt32 31)).toInt32) (fun v1 ev1 => ?_)
  have rv1 := xc_rng v1
  refine xi_iushr (pc' := 4) (v := v1) kc_4_3 rfl ev1 ?_
  refine xi_ldc_w (pc' := 7) (v := 1431655765) kc_4_4 rfl rfl ?_
  refine xcps2 (α := Int32) ((v1 : Int32) &&& 1431655765) (fun v2 ev2 => ?_)
  have rv2 := xc_rng v2
  refine xi_iand (pc' := 8) (v := v2) kc_4_7 rfl ev2 ?_
  refine xcps2 (α := Int32) ((x0 : Int32) - v2) (fun v3 ev3 => ?_)
  have rv3 := xc_rng v3
  refine xi_isub (pc' := 9) (v := v3) kc_4_8 rfl ev3 ?_
  refine xi_istore_n (pc' := 10) (lv' := [(0, .int v3)]) kc_4_9 rfl rfl (xm_lt ml_4 rfl) ?_
  refine xi_iload_n (pc' := 11) (x := v3) kc_4_10 rfl rfl ?_
  refine xi_ldc_w (pc' := 14) (v := 858993459) kc_4_11 rfl rfl ?_
  refine xcps2 (α := Int32) ((v3 : Int32) &&& 858993459) (fun v4 ev4 => ?_)
  have rv4 := xc_rng v4
  refine xi_iand (pc' := 15) (v := v4) kc_4_14 rfl ev4 ?_
  refine xi_iload_n (pc' := 16) (x := v3) kc_4_15 rfl rfl ?_
  refine xi_iconst (pc' := 17) (v := 2) kc_4_16 rfl rfl ?_
  refine xcps2 (α := Int32) (((v3 : Int32).toUInt32 >>> ((2 : Int32).toUInt32 &&& Int32.toUInt32 31)).toInt32) (fun v5 ev5 => ?_)
  have rv5 := xc_rng v5
  refine xi_iushr (pc' := 18) (v := v5) kc_4_17 rfl ev5 ?_
  refine xi_ldc_w (pc' := 21) (v := 858993459) kc_4_18 rfl rfl ?_
  refine xcps2 (α := Int32) ((v5 : Int32) &&& 858993459) (fun v6 ev6 => ?_)
  have rv6 := xc_rng v6
  refine xi_iand (pc' := 22) (v := v6) kc_4_21 rfl ev6 ?_
  refine xcps2 (α := Int32) ((v4 : Int32) + v6) (fun v7 ev7 => ?_)
  have rv7 := xc_rng v7
  refine xi_iadd (pc' := 23) (v := v7) kc_4_22 rfl ev7 ?_
  refine xi_istore_n (pc' := 24) (lv' := [(0, .int v7)]) kc_4_23 rfl rfl (xm_lt ml_4 rfl) ?_
  refine xi_iload_n (pc' := 25) (x := v7) kc_4_24 rfl rfl ?_
  refine xi_iload_n (pc' := 26) (x := v7) kc_4_25 rfl rfl ?_
  refine xi_iconst (pc' := 27) (v := 4) kc_4_26 rfl rfl ?_
  refine xcps2 (α := Int32) (((v7 : Int32).toUInt32 >>> ((4 : Int32).toUInt32 &&& Int32.toUInt32 31)).toInt32) (fun v8 ev8 => ?_)
  have rv8 := xc_rng v8
  refine xi_iushr (pc' := 28) (v := v8) kc_4_27 rfl ev8 ?_
  refine xcps2 (α := Int32) ((v7 : Int32) + v8) (fun v9 ev9 => ?_)
  have rv9 := xc_rng v9
  refine xi_iadd (pc' := 29) (v := v9) kc_4_28 rfl ev9 ?_
  refine xi_ldc_w (pc' := 32) (v := 252645135) kc_4_29 rfl rfl ?_
  refine xcps2 (α := Int32) ((v9 : Int32) &&& 252645135) (fun v10 ev10 => ?_)
  have rv10 := xc_rng v10
  refine xi_iand (pc' := 33) (v := v10) kc_4_32 rfl ev10 ?_
  refine xi_istore_n (pc' := 34) (lv' := [(0, .int v10)]) kc_4_33 rfl rfl (xm_lt ml_4 rfl) ?_
  refine xi_iload_n (pc' := 35) (x := v10) kc_4_34 rfl rfl ?_
  refine xi_iload_n (pc' := 36) (x := v10) kc_4_35 rfl rfl ?_
  refine xi_bipush (pc' := 38) (v := 8) kc_4_36 rfl rfl ?_
  refine xcps2 (α := Int32) (((v10 : Int32).toUInt32 >>> ((8 : Int32).toUInt32 &&& Int32.toUInt32 31)).toInt32) (fun v11 ev11 => ?_)
  have rv11 := xc_rng v11
  refine xi_iushr (pc' := 39) (v := v11) kc_4_38 rfl ev11 ?_
  refine xcps2 (α := Int32) ((v10 : Int32) + v11) (fun v12 ev12 => ?_)
  have rv12 := xc_rng v12
  refine xi_iadd (pc' := 40) (v := v12) kc_4_39 rfl ev12 ?_
  refine xi_istore_n (pc' := 41) (lv' := [(0, .int v12)]) kc_4_40 rfl rfl (xm_lt ml_4 rfl) ?_
  refine xi_iload_n (pc' := 42) (x := v12) kc_4_41 rfl rfl ?_
  refine xi_iload_n (pc' := 43) (x := v12) kc_4_42 rfl rfl ?_
  refine xi_bipush (pc' := 45) (v := 16) kc_4_43 rfl rfl ?_
  refine xcps2 (α := Int32) (((v12 : Int32).toUInt32 >>> ((16 : Int32).toUInt32 &&& Int32.toUInt32 31)).toInt32) (fun v13 ev13 => ?_)
  have rv13 := xc_rng v13
  refine xi_iushr (pc' := 46) (v := v13) kc_4_45 rfl ev13 ?_
  refine xcps2 (α := Int32) ((v12 : Int32) + v13) (fun v14 ev14 => ?_)
  have rv14 := xc_rng v14
  refine xi_iadd (pc' := 47) (v := v14) kc_4_46 rfl ev14 ?_
  refine xi_istore_n (pc' := 48) (lv' := [(0, .int v14)]) kc_4_47 rfl rfl (xm_lt ml_4 rfl) ?_
  refine xi_iload_n (pc' := 49) (x := v14) kc_4_48 rfl rfl ?_
  refine xi_bipush (pc' := 51) (v := 63) kc_4_49 rfl rfl ?_
  refine xcps2 (α := Int32) ((v14 : Int32) &&& 63) (fun v15 ev15 => ?_)
  have rv15 := xc_rng v15
  refine xi_iand (pc' := 52) (v := v15) kc_4_51 rfl ev15 ?_
  refine xi_ireturn kc_4_52 mr_4 rfl ?_
  exact kk v15 h K
set_option maxHeartbeats 4000000 in
theorem lp_145_0 {J : xe_J} {ov : List (List Int32)} (hJ : ∀ d mj as h, mj ≠ xe_loff → J d mj as h = none) (hov1 : ov[1]? = some [10, 0, 0, 0, 0, 0]) (hov2 : ov[2]? = some [99, 30, 50, 50, 1, 99999]) {d : Nat} {Q : Option Value → xe_H → Prop} {hb : xe_H} (kk : (∀ (r : Int32) (h' : xe_H), (0 ≤ r.toInt ∧ r.toInt ≤ 63) → xk [(0, 9), (115, 1), (83, 0), (29, 0), (31, 0), (33, 0), (35, 0), (37, 0), (39, 0), (41, 0), (43, 0), (45, 0), (47, 0), (49, 0), (51, 0), (125, 0), (29, 2), (31, 2), (33, 2), (35, 2), (37, 2), (39, 2), (41, 2), (43, 2), (45, 2), (47, 2), (49, 2), (51, 2), (127, 0), (1, 5), (115, 23)] hb h' → Q (some (.int r)) h')) : ∀ m : Nat, (∀ (x1 : Int32) (x2 : Int32) (h : xe_H), (0 ≤ x1.toInt ∧ x1.toInt ≤ 63) → (1 ≤ x2.toInt ∧ x2.toInt ≤ 64) → xk [(0, 9), (115, 1), (83, 0), (29, 0), (31, 0), (33, 0), (35, 0), (37, 0), (39, 0), (41, 0), (43, 0), (45, 0), (47, 0), (49, 0), (51, 0), (125, 0), (29, 2), (31, 2), (33, 2), (35, 2), (37, 2), (39, 2), (41, 2), (43, 2), (45, 2), (47, 2), (49, 2), (51, 2), (127, 0), (1, 5), (115, 23)] hb h → (-1) * x2.toInt + 64 < (m : Int) → xw J ov (d + 6) 145 (4, [(0, .ref 66), (1, .int x1), (2, .int x2)], [], h) Q) := by
  intro m
  induction m with
  | zero =>
    intro x1 x2 h b1 b2 K hm; exfalso; omega
  | succ m ih =>
    have i0 := ih
    intro x1 x2 h b1 b2 K hm
    refine xi_iload_n (pc' := 5) (x := x2) kc_145_4 rfl rfl ?_
    refine xi_aload_n (pc' := 6) (x := 66) kc_145_5 rfl rfl ?_
    refine xp_66 K.1 (fun u2 wl1 bu2 A3 => ?_)
    refine xi_virtual (mj := 139) (as := []) (st1 := [.int x2]) (lv0 := [(0, .ref 66)]) kc_145_6 rfl rfl rfl rfl rfl A3 (Nat.le_of_ble_eq_true rfl) (hJ _ _ _ _ (by decide)) (xm_le ml_139 rfl) rfl ?_
    refine xi_iconst (pc' := 1) (v := 1) kc_139_0 rfl rfl ?_
    refine xi_aload_n (pc' := 2) (x := 66) kc_139_1 rfl rfl ?_
    refine xi_getfield (pc' := 5) (v := .ref 1) kc_139_2 rfl rfl rfl A3 rfl ?_
    refine xp_1 K.1 (fun u4 u5 bu4 bu5 A6 => ?_)
    refine xi_virtual (mj := 140) (as := []) (st1 := [.int 1]) (lv0 := [(0, .ref 1)]) kc_139_5 rfl rfl rfl rfl rfl A6 (Nat.le_of_ble_eq_true rfl) (hJ _ _ _ _ (by decide)) (xm_le ml_140 rfl) rfl ?_
    refine xi_aload_n (pc' := 1) (x := 1) kc_140_0 rfl rfl ?_
    refine xi_getfield (pc' := 4) (v := .int u4) kc_140_1 rfl rfl rfl A6 rfl ?_
    refine xi_bipush (pc' := 6) (v := 6) kc_140_4 rfl rfl ?_
    by_cases c7 : 6 ≤ u4.toInt
    · refine xi_cmt (pc' := 16) kc_140_6 rfl (xc_ge_t (X := u4.toInt) (Y := 6) rfl (by decide) (by omega)) ?_
      refine xi_bipush (pc' := 18) (v := 6) kc_140_16 rfl rfl ?_
      refine xi_ireturn kc_140_18 mr_140 rfl ?_
      show xw J ov (d + 5) 139 (8, [(0, .ref 66)], [.int 6, .int 1], h) _
      refine xi_ishl (pc' := 9) (v := 64) kc_139_8 rfl rfl ?_
      refine xi_ireturn kc_139_9 mr_139 rfl ?_
      show xw J ov (d + 6) 145 (9, [(0, .ref 66), (1, .int x1), (2, .int x2)], [.int 64, .int x2], h) _
      by_cases c8 : 64 ≤ x2.toInt
      · refine xi_cmt (pc' := 55) kc_145_9 rfl (xc_ge_t (X := x2.toInt) (Y := 64) rfl (by decide) (by omega)) ?_
        refine xi_iload_n (pc' := 56) (x := x1) kc_145_55 rfl rfl ?_
        refine xi_ireturn kc_145_56 mr_145 rfl ?_
        exact kk x1 h (by omega) K
      · refine xi_cmf (pc' := 12) kc_145_9 rfl (xc_ge_f (X := x2.toInt) (Y := 64) rfl (by decide) (by omega)) ?_
        refine xi_aload_n (pc' := 13) (x := 66) kc_145_12 rfl rfl ?_
        refine xi_iload_n (pc' := 14) (x := x1) kc_145_13 rfl rfl ?_
        refine xi_virtual (mj := 146) (as := [.int x1]) (st1 := []) (lv0 := [(0, .ref 66), (1, .int x1)]) kc_145_14 rfl rfl rfl rfl rfl A3 (Nat.le_of_ble_eq_true rfl) (hJ _ _ _ _ (by decide)) (xm_le ml_146 rfl) rfl ?_
        refine mt_146_0 hJ hov1 hov2 (d := d) (x1 := x1) K.1 (fun r9 hh10 K11 => ?_)
        have K12 := xk_tr K K11 rfl
        refine xp_1 K12.1 (fun u13 u14 bu13 bu14 A15 => ?_)
        have e16 : u4 = u13 := xk_eqi (q := 5) K11 rfl A6 A15 rfl rfl
        subst e16
        show xw J ov (d + 6) 145 (17, [(0, .ref 66), (1, .int x1), (2, .int x2)], [.long r9], hh10) _
        refine xi_aload_n (pc' := 18) (x := 66) kc_145_17 rfl rfl ?_
        refine xi_iload_n (pc' := 19) (x := x2) kc_145_18 rfl rfl ?_
        refine xp_66 K12.1 (fun u18 wl17 bu18 A19 => ?_)
        refine xi_virtual (mj := 146) (as := [.int x2]) (st1 := [.long r9]) (lv0 := [(0, .ref 66), (1, .int x2)]) kc_145_19 rfl rfl rfl rfl rfl A19 (Nat.le_of_ble_eq_true rfl) (hJ _ _ _ _ (by decide)) (xm_le ml_146 rfl) rfl ?_
        refine mt_146_0 hJ hov1 hov2 (d := d) (x1 := x2) K12.1 (fun r20 hh21 K22 => ?_)
        have K23 := xk_tr K12 K22 rfl
        refine xp_1 K23.1 (fun u24 u25 bu24 bu25 A26 => ?_)
        have e27 : u4 = u24 := xk_eqi (q := 5) K22 rfl A15 A26 rfl rfl
        subst e27
        show xw J ov (d + 6) 145 (22, [(0, .ref 66), (1, .int x1), (2, .int x2)], [.long r20, .long r9], hh21) _
        refine xcps2 (α := Int64) ((r9 : Int64) - r20) (fun v28 ev28 => ?_)
        refine xi_lsub (pc' := 23) (v := v28) kc_145_22 rfl ev28 ?_
        refine xi_lstore_n (pc' := 24) (lv' := [(3, .long v28), (0, .ref 66), (1, .int x1), (2, .int x2)]) kc_145_23 rfl rfl (xm_lt ml_145 rfl) ?_
        refine xi_lload_n (pc' := 25) (x := v28) kc_145_24 rfl rfl ?_
        refine xi_lconst (pc' := 26) (v := 0) kc_145_25 rfl rfl ?_
        refine xcps2 (α := Int32) (lg_cmp v28 0) (fun v29 ev29 => ?_)
        have rv29 := xc_rng v29
        refine xi_lcmp (pc' := 27) (v := v29) kc_145_26 rfl ev29 ?_
        by_cases c30 : 0 < v29.toInt
        · refine xi_ift (pc' := 47) kc_145_27 rfl (xc_gt_t (X := v29.toInt) (Y := 0) rfl (by decide) (by omega)) ?_
          refine xi_iload_n (pc' := 48) (x := x2) kc_145_47 rfl rfl ?_
          refine xi_istore_n (pc' := 49) (lv' := [(1, .int x2), (3, .long v28), (0, .ref 66), (2, .int x2)]) kc_145_48 rfl rfl (xm_lt ml_145 rfl) ?_
          refine xcps2 (α := Int32) (x2 + 1) (fun v31 ev31 => ?_)
          have zv31 : v31.toInt = (x2.toInt + 1) := by rw [← ev31]; exact (xz_add (X := x2.toInt) (Y := 1) rfl (by decide) (by omega) (by omega)).trans (by omega)
          refine xi_iinc (pc' := 52) (x := x2) (v := v31) (lv' := [(2, .int v31), (1, .int x2), (3, .long v28), (0, .ref 66)]) kc_145_49 rfl rfl ev31 rfl (xm_lt ml_145 rfl) ?_
          refine xi_goto (pc' := 4) kc_145_52 rfl ?_
          refine xw_lv (b := [(0, .ref 66), (1, .int x2), (2, .int v31)]) (lvS_cons (lvS_cons (lvS_cons (lvS_nil (show ([2, 1, 3, 0] : List Nat).Nodup by decide)) rfl) rfl) rfl) ?_
          exact i0 x2 v31 hh21 (by omega) (by omega) K23 (by omega)
        · refine xi_iff (pc' := 30) kc_145_27 rfl (xc_gt_f (X := v29.toInt) (Y := 0) rfl (by decide) (by omega)) ?_
          refine xi_lload_n (pc' := 31) (x := v28) kc_145_30 rfl rfl ?_
          refine xi_lconst (pc' := 32) (v := 0) kc_145_31 rfl rfl ?_
          refine xcps2 (α := Int32) (lg_cmp v28 0) (fun v32 ev32 => ?_)
          have rv32 := xc_rng v32
          refine xi_lcmp (pc' := 33) (v := v32) kc_145_32 rfl ev32 ?_
          by_cases c33 : v32.toInt = 0
          · refine xi_iff (pc' := 36) kc_145_33 rfl (xc_ne_f (X := v32.toInt) (Y := 0) rfl (by decide) (by omega)) ?_
            refine xi_iload_n (pc' := 37) (x := x2) kc_145_36 rfl rfl ?_
            refine xi_static (mj := 4) (as := [.int x2]) (st1 := []) (lv0 := [(0, .int x2)]) kc_145_37 rfl rfl (Nat.le_of_ble_eq_true rfl) rfl rfl (Nat.le_of_ble_eq_true rfl) (hJ _ _ _ _ (by decide)) (xm_le ml_4 rfl) rfl ?_
            refine mt_4_0 hJ hov1 hov2 (d := d + 4) (x0 := x2) K23.1 (fun r34 hh35 K36 => ?_)
            have br34 := xc_rng r34
            have K37 := xk_tr K23 K36 rfl
            refine xp_1 K37.1 (fun u38 u39 bu38 bu39 A40 => ?_)
            have e41 : u4 = u38 := xk_eqi (q := 5) K36 rfl A26 A40 rfl rfl
            subst e41
            show xw J ov (d + 6) 145 (40, [(3, .long v28), (0, .ref 66), (1, .int x1), (2, .int x2)], [.int r34], hh35) _
            refine xi_iload_n (pc' := 41) (x := x1) kc_145_40 rfl rfl ?_
            refine xi_static (mj := 4) (as := [.int x1]) (st1 := [.int r34]) (lv0 := [(0, .int x1)]) kc_145_41 rfl rfl (Nat.le_of_ble_eq_true rfl) rfl rfl (Nat.le_of_ble_eq_true rfl) (hJ _ _ _ _ (by decide)) (xm_le ml_4 rfl) rfl ?_
            refine mt_4_0 hJ hov1 hov2 (d := d + 4) (x0 := x1) K37.1 (fun r42 hh43 K44 => ?_)
            have br42 := xc_rng r42
            have K45 := xk_tr K37 K44 rfl
            refine xp_1 K45.1 (fun u46 u47 bu46 bu47 A48 => ?_)
            have e49 : u4 = u46 := xk_eqi (q := 5) K44 rfl A40 A48 rfl rfl
            subst e49
            show xw J ov (d + 6) 145 (44, [(3, .long v28), (0, .ref 66), (1, .int x1), (2, .int x2)], [.int r42, .int r34], hh43) _
            by_cases c50 : r42.toInt ≤ r34.toInt
            · refine xi_cmt (pc' := 49) kc_145_44 rfl (xc_ge_t (X := r34.toInt) (Y := r42.toInt) rfl rfl (by omega)) ?_
              refine xcps2 (α := Int32) (x2 + 1) (fun v51 ev51 => ?_)
              have zv51 : v51.toInt = (x2.toInt + 1) := by rw [← ev51]; exact (xz_add (X := x2.toInt) (Y := 1) rfl (by decide) (by omega) (by omega)).trans (by omega)
              refine xi_iinc (pc' := 52) (x := x2) (v := v51) (lv' := [(2, .int v51), (3, .long v28), (0, .ref 66), (1, .int x1)]) kc_145_49 rfl rfl ev51 rfl (xm_lt ml_145 rfl) ?_
              refine xi_goto (pc' := 4) kc_145_52 rfl ?_
              refine xw_lv (b := [(0, .ref 66), (1, .int x1), (2, .int v51)]) (lvS_cons (lvS_cons (lvS_cons (lvS_nil (show ([2, 3, 0, 1] : List Nat).Nodup by decide)) rfl) rfl) rfl) ?_
              exact i0 x1 v51 hh43 (by omega) (by omega) K45 (by omega)
            · refine xi_cmf (pc' := 47) kc_145_44 rfl (xc_ge_f (X := r34.toInt) (Y := r42.toInt) rfl rfl (by omega)) ?_
              refine xi_iload_n (pc' := 48) (x := x2) kc_145_47 rfl rfl ?_
              refine xi_istore_n (pc' := 49) (lv' := [(1, .int x2), (3, .long v28), (0, .ref 66), (2, .int x2)]) kc_145_48 rfl rfl (xm_lt ml_145 rfl) ?_
              refine xcps2 (α := Int32) (x2 + 1) (fun v52 ev52 => ?_)
              have zv52 : v52.toInt = (x2.toInt + 1) := by rw [← ev52]; exact (xz_add (X := x2.toInt) (Y := 1) rfl (by decide) (by omega) (by omega)).trans (by omega)
              refine xi_iinc (pc' := 52) (x := x2) (v := v52) (lv' := [(2, .int v52), (1, .int x2), (3, .long v28), (0, .ref 66)]) kc_145_49 rfl rfl ev52 rfl (xm_lt ml_145 rfl) ?_
              refine xi_goto (pc' := 4) kc_145_52 rfl ?_
              refine xw_lv (b := [(0, .ref 66), (1, .int x2), (2, .int v52)]) (lvS_cons (lvS_cons (lvS_cons (lvS_nil (show ([2, 1, 3, 0] : List Nat).Nodup by decide)) rfl) rfl) rfl) ?_
              exact i0 x2 v52 hh43 (by omega) (by omega) K45 (by omega)
          · have zv28c33 : v28 ≠ 0 := xj_lc ev32 (by omega)
            refine xi_ift (pc' := 49) kc_145_33 rfl (xc_ne_t (X := v32.toInt) (Y := 0) rfl (by decide) (by omega)) ?_
            refine xcps2 (α := Int32) (x2 + 1) (fun v53 ev53 => ?_)
            have zv53 : v53.toInt = (x2.toInt + 1) := by rw [← ev53]; exact (xz_add (X := x2.toInt) (Y := 1) rfl (by decide) (by omega) (by omega)).trans (by omega)
            refine xi_iinc (pc' := 52) (x := x2) (v := v53) (lv' := [(2, .int v53), (3, .long v28), (0, .ref 66), (1, .int x1)]) kc_145_49 rfl rfl ev53 rfl (xm_lt ml_145 rfl) ?_
            refine xi_goto (pc' := 4) kc_145_52 rfl ?_
            refine xw_lv (b := [(0, .ref 66), (1, .int x1), (2, .int v53)]) (lvS_cons (lvS_cons (lvS_cons (lvS_nil (show ([2, 3, 0, 1] : List Nat).Nodup by decide)) rfl) rfl) rfl) ?_
            exact i0 x1 v53 hh21 (by omega) (by omega) K23 (by omega)
    · refine xi_cmf (pc' := 9) kc_140_6 rfl (xc_ge_f (X := u4.toInt) (Y := 6) rfl (by decide) (by omega)) ?_
      refine xi_aload_n (pc' := 10) (x := 1) kc_140_9 rfl rfl ?_
      refine xi_getfield (pc' := 13) (v := .int u4) kc_140_10 rfl rfl rfl A6 rfl ?_
      refine xi_goto (pc' := 18) kc_140_13 rfl ?_
      refine xi_ireturn kc_140_18 mr_140 rfl ?_
      show xw J ov (d + 5) 139 (8, [(0, .ref 66)], [.int u4, .int 1], h) _
      refine xcps2 (α := Int32) ((1 : Int32) <<< (u4 &&& 31)) (fun v54 ev54 => ?_)
      have rv54 := xc_rng v54
      have bv54 : 1 ≤ v54.toInt ∧ v54.toInt ≤ 64 := by rw [← ev54]; exact xj_shl6 (by omega) (by omega)
      refine xi_ishl (pc' := 9) (v := v54) kc_139_8 rfl ev54 ?_
      refine xi_ireturn kc_139_9 mr_139 rfl ?_
      show xw J ov (d + 6) 145 (9, [(0, .ref 66), (1, .int x1), (2, .int x2)], [.int v54, .int x2], h) _
      by_cases c55 : v54.toInt ≤ x2.toInt
      · refine xi_cmt (pc' := 55) kc_145_9 rfl (xc_ge_t (X := x2.toInt) (Y := v54.toInt) rfl rfl (by omega)) ?_
        refine xi_iload_n (pc' := 56) (x := x1) kc_145_55 rfl rfl ?_
        refine xi_ireturn kc_145_56 mr_145 rfl ?_
        exact kk x1 h (by omega) K
      · refine xi_cmf (pc' := 12) kc_145_9 rfl (xc_ge_f (X := x2.toInt) (Y := v54.toInt) rfl rfl (by omega)) ?_
        refine xi_aload_n (pc' := 13) (x := 66) kc_145_12 rfl rfl ?_
        refine xi_iload_n (pc' := 14) (x := x1) kc_145_13 rfl rfl ?_
        refine xi_virtual (mj := 146) (as := [.int x1]) (st1 := []) (lv0 := [(0, .ref 66), (1, .int x1)]) kc_145_14 rfl rfl rfl rfl rfl A3 (Nat.le_of_ble_eq_true rfl) (hJ _ _ _ _ (by decide)) (xm_le ml_146 rfl) rfl ?_
        refine mt_146_0 hJ hov1 hov2 (d := d) (x1 := x1) K.1 (fun r56 hh57 K58 => ?_)
        have K59 := xk_tr K K58 rfl
        refine xp_1 K59.1 (fun u60 u61 bu60 bu61 A62 => ?_)
        have e63 : u4 = u60 := xk_eqi (q := 5) K58 rfl A6 A62 rfl rfl
        subst e63
        show xw J ov (d + 6) 145 (17, [(0, .ref 66), (1, .int x1), (2, .int x2)], [.long r56], hh57) _
        refine xi_aload_n (pc' := 18) (x := 66) kc_145_17 rfl rfl ?_
        refine xi_iload_n (pc' := 19) (x := x2) kc_145_18 rfl rfl ?_
        refine xp_66 K59.1 (fun u65 wl64 bu65 A66 => ?_)
        refine xi_virtual (mj := 146) (as := [.int x2]) (st1 := [.long r56]) (lv0 := [(0, .ref 66), (1, .int x2)]) kc_145_19 rfl rfl rfl rfl rfl A66 (Nat.le_of_ble_eq_true rfl) (hJ _ _ _ _ (by decide)) (xm_le ml_146 rfl) rfl ?_
        refine mt_146_0 hJ hov1 hov2 (d := d) (x1 := x2) K59.1 (fun r67 hh68 K69 => ?_)
        have K70 := xk_tr K59 K69 rfl
        refine xp_1 K70.1 (fun u71 u72 bu71 bu72 A73 => ?_)
        have e74 : u4 = u71 := xk_eqi (q := 5) K69 rfl A62 A73 rfl rfl
        subst e74
        show xw J ov (d + 6) 145 (22, [(0, .ref 66), (1, .int x1), (2, .int x2)], [.long r67, .long r56], hh68) _
        refine xcps2 (α := Int64) ((r56 : Int64) - r67) (fun v75 ev75 => ?_)
        refine xi_lsub (pc' := 23) (v := v75) kc_145_22 rfl ev75 ?_
        refine xi_lstore_n (pc' := 24) (lv' := [(3, .long v75), (0, .ref 66), (1, .int x1), (2, .int x2)]) kc_145_23 rfl rfl (xm_lt ml_145 rfl) ?_
        refine xi_lload_n (pc' := 25) (x := v75) kc_145_24 rfl rfl ?_
        refine xi_lconst (pc' := 26) (v := 0) kc_145_25 rfl rfl ?_
        refine xcps2 (α := Int32) (lg_cmp v75 0) (fun v76 ev76 => ?_)
        have rv76 := xc_rng v76
        refine xi_lcmp (pc' := 27) (v := v76) kc_145_26 rfl ev76 ?_
        by_cases c77 : 0 < v76.toInt
        · refine xi_ift (pc' := 47) kc_145_27 rfl (xc_gt_t (X := v76.toInt) (Y := 0) rfl (by decide) (by omega)) ?_
          refine xi_iload_n (pc' := 48) (x := x2) kc_145_47 rfl rfl ?_
          refine xi_istore_n (pc' := 49) (lv' := [(1, .int x2), (3, .long v75), (0, .ref 66), (2, .int x2)]) kc_145_48 rfl rfl (xm_lt ml_145 rfl) ?_
          refine xcps2 (α := Int32) (x2 + 1) (fun v78 ev78 => ?_)
          have zv78 : v78.toInt = (x2.toInt + 1) := by rw [← ev78]; exact (xz_add (X := x2.toInt) (Y := 1) rfl (by decide) (by omega) (by omega)).trans (by omega)
          refine xi_iinc (pc' := 52) (x := x2) (v := v78) (lv' := [(2, .int v78), (1, .int x2), (3, .long v75), (0, .ref 66)]) kc_145_49 rfl rfl ev78 rfl (xm_lt ml_145 rfl) ?_
          refine xi_goto (pc' := 4) kc_145_52 rfl ?_
          refine xw_lv (b := [(0, .ref 66), (1, .int x2), (2, .int v78)]) (lvS_cons (lvS_cons (lvS_cons (lvS_nil (show ([2, 1, 3, 0] : List Nat).Nodup by decide)) rfl) rfl) rfl) ?_
          exact i0 x2 v78 hh68 (by omega) (by omega) K70 (by omega)
        · refine xi_iff (pc' := 30) kc_145_27 rfl (xc_gt_f (X := v76.toInt) (Y := 0) rfl (by decide) (by omega)) ?_
          refine xi_lload_n (pc' := 31) (x := v75) kc_145_30 rfl rfl ?_
          refine xi_lconst (pc' := 32) (v := 0) kc_145_31 rfl rfl ?_
          refine xcps2 (α := Int32) (lg_cmp v75 0) (fun v79 ev79 => ?_)
          have rv79 := xc_rng v79
          refine xi_lcmp (pc' := 33) (v := v79) kc_145_32 rfl ev79 ?_
          by_cases c80 : v79.toInt = 0
          · refine xi_iff (pc' := 36) kc_145_33 rfl (xc_ne_f (X := v79.toInt) (Y := 0) rfl (by decide) (by omega)) ?_
            refine xi_iload_n (pc' := 37) (x := x2) kc_145_36 rfl rfl ?_
            refine xi_static (mj := 4) (as := [.int x2]) (st1 := []) (lv0 := [(0, .int x2)]) kc_145_37 rfl rfl (Nat.le_of_ble_eq_true rfl) rfl rfl (Nat.le_of_ble_eq_true rfl) (hJ _ _ _ _ (by decide)) (xm_le ml_4 rfl) rfl ?_
            refine mt_4_0 hJ hov1 hov2 (d := d + 4) (x0 := x2) K70.1 (fun r81 hh82 K83 => ?_)
            have br81 := xc_rng r81
            have K84 := xk_tr K70 K83 rfl
            refine xp_1 K84.1 (fun u85 u86 bu85 bu86 A87 => ?_)
            have e88 : u4 = u85 := xk_eqi (q := 5) K83 rfl A73 A87 rfl rfl
            subst e88
            show xw J ov (d + 6) 145 (40, [(3, .long v75), (0, .ref 66), (1, .int x1), (2, .int x2)], [.int r81], hh82) _
            refine xi_iload_n (pc' := 41) (x := x1) kc_145_40 rfl rfl ?_
            refine xi_static (mj := 4) (as := [.int x1]) (st1 := [.int r81]) (lv0 := [(0, .int x1)]) kc_145_41 rfl rfl (Nat.le_of_ble_eq_true rfl) rfl rfl (Nat.le_of_ble_eq_true rfl) (hJ _ _ _ _ (by decide)) (xm_le ml_4 rfl) rfl ?_
            refine mt_4_0 hJ hov1 hov2 (d := d + 4) (x0 := x1) K84.1 (fun r89 hh90 K91 => ?_)
            have br89 := xc_rng r89
            have K92 := xk_tr K84 K91 rfl
            refine xp_1 K92.1 (fun u93 u94 bu93 bu94 A95 => ?_)
            have e96 : u4 = u93 := xk_eqi (q := 5) K91 rfl A87 A95 rfl rfl
            subst e96
            show xw J ov (d + 6) 145 (44, [(3, .long v75), (0, .ref 66), (1, .int x1), (2, .int x2)], [.int r89, .int r81], hh90) _
            by_cases c97 : r89.toInt ≤ r81.toInt
            · refine xi_cmt (pc' := 49) kc_145_44 rfl (xc_ge_t (X := r81.toInt) (Y := r89.toInt) rfl rfl (by omega)) ?_
              refine xcps2 (α := Int32) (x2 + 1) (fun v98 ev98 => ?_)
              have zv98 : v98.toInt = (x2.toInt + 1) := by rw [← ev98]; exact (xz_add (X := x2.toInt) (Y := 1) rfl (by decide) (by omega) (by omega)).trans (by omega)
              refine xi_iinc (pc' := 52) (x := x2) (v := v98) (lv' := [(2, .int v98), (3, .long v75), (0, .ref 66), (1, .int x1)]) kc_145_49 rfl rfl ev98 rfl (xm_lt ml_145 rfl) ?_
              refine xi_goto (pc' := 4) kc_145_52 rfl ?_
              refine xw_lv (b := [(0, .ref 66), (1, .int x1), (2, .int v98)]) (lvS_cons (lvS_cons (lvS_cons (lvS_nil (show ([2, 3, 0, 1] : List Nat).Nodup by decide)) rfl) rfl) rfl) ?_
              exact i0 x1 v98 hh90 (by omega) (by omega) K92 (by omega)
            · refine xi_cmf (pc' := 47) kc_145_44 rfl (xc_ge_f (X := r81.toInt) (Y := r89.toInt) rfl rfl (by omega)) ?_
              refine xi_iload_n (pc' := 48) (x := x2) kc_145_47 rfl rfl ?_
              refine xi_istore_n (pc' := 49) (lv' := [(1, .int x2), (3, .long v75), (0, .ref 66), (2, .int x2)]) kc_145_48 rfl rfl (xm_lt ml_145 rfl) ?_
              refine xcps2 (α := Int32) (x2 + 1) (fun v99 ev99 => ?_)
              have zv99 : v99.toInt = (x2.toInt + 1) := by rw [← ev99]; exact (xz_add (X := x2.toInt) (Y := 1) rfl (by decide) (by omega) (by omega)).trans (by omega)
              refine xi_iinc (pc' := 52) (x := x2) (v := v99) (lv' := [(2, .int v99), (1, .int x2), (3, .long v75), (0, .ref 66)]) kc_145_49 rfl rfl ev99 rfl (xm_lt ml_145 rfl) ?_
              refine xi_goto (pc' := 4) kc_145_52 rfl ?_
              refine xw_lv (b := [(0, .ref 66), (1, .int x2), (2, .int v99)]) (lvS_cons (lvS_cons (lvS_cons (lvS_nil (show ([2, 1, 3, 0] : List Nat).Nodup by decide)) rfl) rfl) rfl) ?_
              exact i0 x2 v99 hh90 (by omega) (by omega) K92 (by omega)
          · have zv75c80 : v75 ≠ 0 := xj_lc ev79 (by omega)
            refine xi_ift (pc' := 49) kc_145_33 rfl (xc_ne_t (X := v79.toInt) (Y := 0) rfl (by decide) (by omega)) ?_
            refine xcps2 (α := Int32) (x2 + 1) (fun v100 ev100 => ?_)
            have zv100 : v100.toInt = (x2.toInt + 1) := by rw [← ev100]; exact (xz_add (X := x2.toInt) (Y := 1) rfl (by decide) (by omega) (by omega)).trans (by omega)
            refine xi_iinc (pc' := 52) (x := x2) (v := v100) (lv' := [(2, .int v100), (3, .long v75), (0, .ref 66), (1, .int x1)]) kc_145_49 rfl rfl ev100 rfl (xm_lt ml_145 rfl) ?_
            refine xi_goto (pc' := 4) kc_145_52 rfl ?_
            refine xw_lv (b := [(0, .ref 66), (1, .int x1), (2, .int v100)]) (lvS_cons (lvS_cons (lvS_cons (lvS_nil (show ([2, 3, 0, 1] : List Nat).Nodup by decide)) rfl) rfl) rfl) ?_
            exact i0 x1 v100 hh68 (by omega) (by omega) K70 (by omega)
set_option maxHeartbeats 4000000 in
theorem mt_145_0 {J : xe_J} {ov : List (List Int32)} (hJ : ∀ d mj as h, mj ≠ xe_loff → J d mj as h = none) (hov1 : ov[1]? = some [10, 0, 0, 0, 0, 0]) (hov2 : ov[2]? = some [99, 30, 50, 50, 1, 99999]) {d : Nat} {Q : Option Value → xe_H → Prop} {h : xe_H} (T : xt h) (kk : (∀ (r : Int32) (h' : xe_H), (0 ≤ r.toInt ∧ r.toInt ≤ 63) → xk [(0, 9), (115, 1), (83, 0), (29, 0), (31, 0), (33, 0), (35, 0), (37, 0), (39, 0), (41, 0), (43, 0), (45, 0), (47, 0), (49, 0), (51, 0), (125, 0), (29, 2), (31, 2), (33, 2), (35, 2), (37, 2), (39, 2), (41, 2), (43, 2), (45, 2), (47, 2), (49, 2), (51, 2), (127, 0), (1, 5), (115, 23)] h h' → Q (some (.int r)) h')) : xw J ov (d + 6) 145 (0, [(0, .ref 66)], [], h) Q := by
  have K : xk [(0, 9), (115, 1), (83, 0), (29, 0), (31, 0), (33, 0), (35, 0), (37, 0), (39, 0), (41, 0), (43, 0), (45, 0), (47, 0), (49, 0), (51, 0), (125, 0), (29, 2), (31, 2), (33, 2), (35, 2), (37, 2), (39, 2), (41, 2), (43, 2), (45, 2), (47, 2), (49, 2), (51, 2), (127, 0), (1, 5), (115, 23)] h h := xk_re T
  refine xi_iconst (pc' := 1) (v := 0) kc_145_0 rfl rfl ?_
  refine xi_istore_n (pc' := 2) (lv' := [(1, .int 0), (0, .ref 66)]) kc_145_1 rfl rfl (xm_lt ml_145 rfl) ?_
  refine xi_iconst (pc' := 3) (v := 1) kc_145_2 rfl rfl ?_
  refine xi_istore_n (pc' := 4) (lv' := [(2, .int 1), (1, .int 0), (0, .ref 66)]) kc_145_3 rfl rfl (xm_lt ml_145 rfl) ?_
  have zc0 : (0 : Int32).toInt = 0 := by decide
  have zc1 : (1 : Int32).toInt = 1 := by decide
  refine xw_lv (b := [(0, .ref 66), (1, .int 0), (2, .int 1)]) (lvS_cons (lvS_cons (lvS_cons (lvS_nil (show ([2, 1, 0] : List Nat).Nodup by decide)) rfl) rfl) rfl) ?_
  exact (lp_145_0 hJ hov1 hov2 (d := d) (hb := h) (fun r9 h9 b9 K9 => kk r9 h9 b9 (xk_tr K K9 rfl)) 64) 0 1 h (by omega) (by omega) (xk_re K.1) (by omega)
