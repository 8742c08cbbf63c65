set_option maxHeartbeats 4000000 in
theorem lp_49_0 {J : xe_J} {ov : List (List Int32)} (hJ : ∀ d mj as h, mj ≠ xe_loff → J d mj as h = none) (hov1 : ov[1]? = some [10, 0, 0, 0, 0, 0]) (hov2 : ov[2]? = some [99, 30, 50, 50, 1, 99999]) {d : Nat} {Q : Option Value → xe_H → Prop} {hb : xe_H} (kk : (∀ (r : Int32) (h' : xe_H), xk [(0, 9), (115, 1), (83, 0), (29, 0), (31, 0), (33, 0), (35, 0), (37, 0), (39, 0), (41, 0), (43, 0), (45, 0), (47, 0), (49, 0), (51, 0), (125, 0), (29, 2), (31, 2), (33, 2), (35, 2), (37, 2), (39, 2), (41, 2), (43, 2), (45, 2), (47, 2), (49, 2), (51, 2), (127, 0), (1, 5), (115, 23)] hb h' → Q (some (.int r)) h')) : ∀ m : Nat, (∀ (x1 : Int32) (x2 : Int32) (h : xe_H), xk [(0, 9), (115, 1), (83, 0), (29, 0), (31, 0), (33, 0), (35, 0), (37, 0), (39, 0), (41, 0), (43, 0), (45, 0), (47, 0), (49, 0), (51, 0), (125, 0), (29, 2), (31, 2), (33, 2), (35, 2), (37, 2), (39, 2), (41, 2), (43, 2), (45, 2), (47, 2), (49, 2), (51, 2), (127, 0), (1, 5), (115, 23)] hb h → (1) * x2.toInt + 2147483648 < (m : Int) → xw J ov (d + 1) 49 (4, [(1, .int x1), (2, .int x2)], [], h) Q) := by
  intro m
  induction m with
  | zero =>
    intro x1 x2 h K hm; have rx1 := xc_rng x1; have rx2 := xc_rng x2; exfalso; omega
  | succ m ih =>
    have i0 := ih
    intro x1 x2 h K hm
    have rx1 := xc_rng x1
    have rx2 := xc_rng x2
    refine xi_iload_n (pc' := 5) (x := x2) kc_49_4 rfl rfl ?_
    by_cases c1 : x2.toInt ≤ 0
    · refine xi_ift (pc' := 21) kc_49_5 rfl (xc_le_t (X := x2.toInt) (Y := 0) rfl (by decide) (by omega)) ?_
      refine xi_iload_n (pc' := 22) (x := x1) kc_49_21 rfl rfl ?_
      refine xi_ireturn kc_49_22 mr_49 rfl ?_
      exact kk x1 h K
    · refine xi_iff (pc' := 8) kc_49_5 rfl (xc_le_f (X := x2.toInt) (Y := 0) rfl (by decide) (by omega)) ?_
      refine xi_iload_n (pc' := 9) (x := x1) kc_49_8 rfl rfl ?_
      refine xi_iload_n (pc' := 10) (x := x2) kc_49_9 rfl rfl ?_
      refine xi_iconst (pc' := 11) (v := 2) kc_49_10 rfl rfl ?_
      refine xcps2 (α := Int32) (x2 - x2 / 2 * 2) (fun v2 ev2 => ?_)
      have dv2 : v2.toInt = x2.toInt % 2 := by rw [← ev2]; exact xz_reme (X := x2.toInt) (Y := 2) rfl (by decide) (by omega) (by decide)
      have bv2 : 0 ≤ v2.toInt ∧ v2.toInt ≤ 1 := by omega
      refine xi_irem (pc' := 12) (v := v2) kc_49_11 rfl ev2 (by decide) ?_
      refine xcps2 (α := Int32) ((x1 : Int32) + v2) (fun v3 ev3 => ?_)
      have rv3 := xc_rng v3
      refine xi_iadd (pc' := 13) (v := v3) kc_49_12 rfl ev3 ?_
      refine xi_istore_n (pc' := 14) (lv' := [(1, .int v3), (2, .int x2)]) kc_49_13 rfl rfl (xm_lt ml_49 rfl) ?_
      refine xi_iload_n (pc' := 15) (x := x2) kc_49_14 rfl rfl ?_
      refine xi_iconst (pc' := 16) (v := 2) kc_49_15 rfl rfl ?_
      refine xcps2 (α := Int32) (x2 / 2) (fun v4 ev4 => ?_)
      have dv4 : v4.toInt = x2.toInt / 2 := by rw [← ev4]; exact xz_dive (X := x2.toInt) (Y := 2) rfl (by decide) (by omega) (by decide)
      have bv4 : 0 ≤ v4.toInt ∧ v4.toInt ≤ 1073741823 := by omega
      refine xi_idiv (pc' := 17) (v := v4) kc_49_16 rfl ev4 (by decide) ?_
      refine xi_istore_n (pc' := 18) (lv' := [(2, .int v4), (1, .int v3)]) kc_49_17 rfl rfl (xm_lt ml_49 rfl) ?_
      refine xi_goto (pc' := 4) kc_49_18 rfl ?_
      refine xw_lv (b := [(1, .int v3), (2, .int v4)]) (lvS_cons (lvS_cons (lvS_nil (show ([2, 1] : List Nat).Nodup by decide)) rfl) rfl) ?_
      exact i0 v3 v4 h K (by omega)
set_option maxHeartbeats 4000000 in
theorem mt_49_0 {J : xe_J} {ov : List (List Int32)} (hJ : ∀ d mj as h, mj ≠ xe_loff → J d mj as h = none) (hov1 : ov[1]? = some [10, 0, 0, 0, 0, 0]) (hov2 : ov[2]? = some [99, 30, 50, 50, 1, 99999]) {d : Nat} {Q : Option Value → xe_H → Prop} {h : xe_H} {x0 : Int32} (T : xt h) (kk : (∀ (r : Int32) (h' : xe_H), xk [(0, 9), (115, 1), (83, 0), (29, 0), (31, 0), (33, 0), (35, 0), (37, 0), (39, 0), (41, 0), (43, 0), (45, 0), (47, 0), (49, 0), (51, 0), (125, 0), (29, 2), (31, 2), (33, 2), (35, 2), (37, 2), (39, 2), (41, 2), (43, 2), (45, 2), (47, 2), (49, 2), (51, 2), (127, 0), (1, 5), (115, 23)] h h' → Q (some (.int r)) h')) : xw J ov (d + 1) 49 (0, [(0, .int x0)], [], h) Q := by
  have K : xk [(0, 9), (115, 1), (83, 0), (29, 0), (31, 0), (33, 0), (35, 0), (37, 0), (39, 0), (41, 0), (43, 0), (45, 0), (47, 0), (49, 0), (51, 0), (125, 0), (29, 2), (31, 2), (33, 2), (35, 2), (37, 2), (39, 2), (41, 2), (43, 2), (45, 2), (47, 2), (49, 2), (51, 2), (127, 0), (1, 5), (115, 23)] h h := xk_re T
  have rx0 := xc_rng x0
  refine xi_iconst (pc' := 1) (v := 0) kc_49_0 rfl rfl ?_
  refine xi_istore_n (pc' := 2) (lv' := [(1, .int 0), (0, .int x0)]) kc_49_1 rfl rfl (xm_lt ml_49 rfl) ?_
  refine xi_iload_n (pc' := 3) (x := x0) kc_49_2 rfl rfl ?_
  refine xi_istore_n (pc' := 4) (lv' := [(2, .int x0), (1, .int 0), (0, .int x0)]) kc_49_3 rfl rfl (xm_lt ml_49 rfl) ?_
  have zc0 : (0 : Int32).toInt = 0 := by decide
  refine xw_lv (b := [(1, .int 0), (2, .int x0)]) (lvS_cons (lvS_cons (lvS_nil (show ([2, 1, 0] : List Nat).Nodup by decide)) rfl) rfl) ?_
  exact (lp_49_0 hJ hov1 hov2 (d := d) (hb := h) (fun r9 h9 K9 => kk r9 h9 (xk_tr K K9 rfl)) 4294967296) 0 x0 h (xk_re K.1) (by omega)
set_option maxHeartbeats 4000000 in
theorem lp_48_0 {J : xe_J} {ov : List (List Int32)} (hJ : ∀ d mj as h, mj ≠ xe_loff → J d mj as h = none) (hov1 : ov[1]? = some [10, 0, 0, 0, 0, 0]) (hov2 : ov[2]? = some [99, 30, 50, 50, 1, 99999]) {d : Nat} {Q : Option Value → xe_H → Prop} {hb : xe_H} (kk : (∀ (r : Int32) (h' : xe_H), (0 ≤ r.toInt ∧ r.toInt ≤ 63) → xk [(0, 9), (115, 1), (83, 0), (29, 0), (31, 0), (33, 0), (35, 0), (37, 0), (39, 0), (41, 0), (43, 0), (45, 0), (47, 0), (49, 0), (51, 0), (125, 0), (29, 2), (31, 2), (33, 2), (35, 2), (37, 2), (39, 2), (41, 2), (43, 2), (45, 2), (47, 2), (49, 2), (51, 2), (127, 0), (1, 5), (115, 23)] hb h' → Q (some (.int r)) h')) : ∀ m : Nat, (∀ (x1 : Int32) (x2 : Int32) (h : xe_H), (0 ≤ x1.toInt ∧ x1.toInt ≤ 63) → (1 ≤ x2.toInt ∧ x2.toInt ≤ 64) → xk [(0, 9), (115, 1), (83, 0), (29, 0), (31, 0), (33, 0), (35, 0), (37, 0), (39, 0), (41, 0), (43, 0), (45, 0), (47, 0), (49, 0), (51, 0), (125, 0), (29, 2), (31, 2), (33, 2), (35, 2), (37, 2), (39, 2), (41, 2), (43, 2), (45, 2), (47, 2), (49, 2), (51, 2), (127, 0), (1, 5), (115, 23)] hb h → (-1) * x2.toInt + 64 < (m : Int) → xw J ov (d + 7) 48 (8, [(0, .ref 115), (1, .int x1), (2, .int x2)], [], h) Q) := by
  intro m
  induction m with
  | zero =>
    intro x1 x2 h b1 b2 K hm; exfalso; omega
  | succ m ih =>
    have i0 := ih
    intro x1 x2 h b1 b2 K hm
    refine xi_iload_n (pc' := 9) (x := x2) kc_48_8 rfl rfl ?_
    refine xi_aload_n (pc' := 10) (x := 115) kc_48_9 rfl rfl ?_
    refine xp_115 K.1 (fun u1 u2 u3 u4 u5 u6 u7 u8 u9 u10 u11 u12 u13 bu1 bu2 bu3 bu4 bu5 bu6 bu7 bu8 bu9 bu10 bu11 bu12 bu13 A14 => ?_)
    refine xi_virtual (mj := 42) (as := []) (st1 := [.int x2]) (lv0 := [(0, .ref 115)]) kc_48_10 rfl rfl rfl rfl rfl A14 (Nat.le_of_ble_eq_true rfl) (hJ _ _ _ _ (by decide)) (xm_le ml_42 rfl) rfl ?_
    refine xi_iconst (pc' := 1) (v := 1) kc_42_0 rfl rfl ?_
    refine xi_aload_n (pc' := 2) (x := 115) kc_42_1 rfl rfl ?_
    refine xi_getfield (pc' := 5) (v := .int u5) kc_42_2 rfl rfl rfl A14 rfl ?_
    refine xi_bipush (pc' := 7) (v := 6) kc_42_5 rfl rfl ?_
    by_cases c15 : 6 ≤ u5.toInt
    · refine xi_cmt (pc' := 17) kc_42_7 rfl (xc_ge_t (X := u5.toInt) (Y := 6) rfl (by decide) (by omega)) ?_
      refine xi_bipush (pc' := 19) (v := 6) kc_42_17 rfl rfl ?_
      refine xi_ishl (pc' := 20) (v := 64) kc_42_19 rfl rfl ?_
      refine xi_ireturn kc_42_20 mr_42 rfl ?_
      show xw J ov (d + 7) 48 (13, [(0, .ref 115), (1, .int x1), (2, .int x2)], [.int 64, .int x2], h) _
      by_cases c16 : 64 ≤ x2.toInt
      · refine xi_cmt (pc' := 81) kc_48_13 rfl (xc_ge_t (X := x2.toInt) (Y := 64) rfl (by decide) (by omega)) ?_
        refine xi_iload_n (pc' := 82) (x := x1) kc_48_81 rfl rfl ?_
        refine xi_ireturn kc_48_82 mr_48 rfl ?_
        exact kk x1 h (by omega) K
      · refine xi_cmf (pc' := 16) kc_48_13 rfl (xc_ge_f (X := x2.toInt) (Y := 64) rfl (by decide) (by omega)) ?_
        refine xi_aload_n (pc' := 17) (x := 115) kc_48_16 rfl rfl ?_
        refine xi_getfield (pc' := 20) (v := .ref 149) kc_48_17 rfl rfl rfl A14 rfl ?_
        refine xi_iload_n (pc' := 21) (x := x2) kc_48_20 rfl rfl ?_
        obtain ⟨y17, A17, hy17⟩ := xk_larr K.1 xD_149
        refine xcps2 (α := Int64) (y17.getD (Int32.toNatClampNeg x2) 0) (fun v18 ev18 => ?_)
        refine xi_laload (pc' := 22) (v := v18) kc_48_21 rfl A17 rfl (xi_in (by omega) (by rw [hy17]; omega)) ev18 ?_
        refine xi_aload_n (pc' := 23) (x := 115) kc_48_22 rfl rfl ?_
        refine xi_getfield (pc' := 26) (v := .ref 149) kc_48_23 rfl rfl rfl A14 rfl ?_
        refine xi_iload_n (pc' := 27) (x := x1) kc_48_26 rfl rfl ?_
        refine xcps2 (α := Int64) (y17.getD (Int32.toNatClampNeg x1) 0) (fun v19 ev19 => ?_)
        refine xi_laload (pc' := 28) (v := v19) kc_48_27 rfl A17 rfl (xi_in (by omega) (by rw [hy17]; omega)) ev19 ?_
        refine xcps2 (α := Int32) (lg_cmp v18 v19) (fun v20 ev20 => ?_)
        have rv20 := xc_rng v20
        refine xi_lcmp (pc' := 29) (v := v20) kc_48_28 rfl ev20 ?_
        by_cases c21 : v20.toInt < 0
        · refine xi_ift (pc' := 59) kc_48_29 rfl (xc_lt_t (X := v20.toInt) (Y := 0) rfl (by decide) (by omega)) ?_
          refine xi_iconst (pc' := 60) (v := 1) kc_48_59 rfl rfl ?_
          refine xi_goto (pc' := 64) kc_48_60 rfl ?_
          refine xi_istore_n (pc' := 65) (lv' := [(3, .int 1), (0, .ref 115), (1, .int x1), (2, .int x2)]) kc_48_64 rfl rfl (xm_lt ml_48 rfl) ?_
          refine xi_iload_n (pc' := 66) (x := 1) kc_48_65 rfl rfl ?_
          refine xi_iff (pc' := 69) kc_48_66 rfl rfl ?_
          refine xi_iload_n (pc' := 70) (x := x2) kc_48_69 rfl rfl ?_
          refine xi_goto (pc' := 74) kc_48_70 rfl ?_
          refine xi_istore_n (pc' := 75) (lv' := [(1, .int x2), (3, .int 1), (0, .ref 115), (2, .int x2)]) kc_48_74 rfl rfl (xm_lt ml_48 rfl) ?_
          refine xcps2 (α := Int32) (x2 + 1) (fun v22 ev22 => ?_)
          have zv22 : v22.toInt = (x2.toInt + 1) := by rw [← ev22]; exact (xz_add (X := x2.toInt) (Y := 1) rfl (by decide) (by omega) (by omega)).trans (by omega)
          refine xi_iinc (pc' := 78) (x := x2) (v := v22) (lv' := [(2, .int v22), (1, .int x2), (3, .int 1), (0, .ref 115)]) kc_48_75 rfl rfl ev22 rfl (xm_lt ml_48 rfl) ?_
          refine xi_goto (pc' := 8) kc_48_78 rfl ?_
          refine xw_lv (b := [(0, .ref 115), (1, .int x2), (2, .int v22)]) (lvS_cons (lvS_cons (lvS_cons (lvS_nil (show ([2, 1, 3, 0] : List Nat).Nodup by decide)) rfl) rfl) rfl) ?_
          exact i0 x2 v22 h (by omega) (by omega) K (by omega)
        · refine xi_iff (pc' := 32) kc_48_29 rfl (xc_lt_f (X := v20.toInt) (Y := 0) rfl (by decide) (by omega)) ?_
          refine xi_aload_n (pc' := 33) (x := 115) kc_48_32 rfl rfl ?_
          refine xi_getfield (pc' := 36) (v := .ref 149) kc_48_33 rfl rfl rfl A14 rfl ?_
          refine xi_iload_n (pc' := 37) (x := x2) kc_48_36 rfl rfl ?_
          refine xi_laload (pc' := 38) (v := v18) kc_48_37 rfl A17 rfl (xi_in (by omega) (by rw [hy17]; omega)) ev18 ?_
          refine xi_aload_n (pc' := 39) (x := 115) kc_48_38 rfl rfl ?_
          refine xi_getfield (pc' := 42) (v := .ref 149) kc_48_39 rfl rfl rfl A14 rfl ?_
          refine xi_iload_n (pc' := 43) (x := x1) kc_48_42 rfl rfl ?_
          refine xi_laload (pc' := 44) (v := v19) kc_48_43 rfl A17 rfl (xi_in (by omega) (by rw [hy17]; omega)) ev19 ?_
          refine xcps2 (α := Int32) (lg_cmp v18 v19) (fun v23 ev23 => ?_)
          have rv23 := xc_rng v23
          refine xi_lcmp (pc' := 45) (v := v23) kc_48_44 rfl ev23 ?_
          by_cases c24 : v23.toInt = 0
          · refine xi_iff (pc' := 48) kc_48_45 rfl (xc_ne_f (X := v23.toInt) (Y := 0) rfl (by decide) (by omega)) ?_
            refine xi_iload_n (pc' := 49) (x := x2) kc_48_48 rfl rfl ?_
            refine xi_static (mj := 49) (as := [.int x2]) (st1 := []) (lv0 := [(0, .int x2)]) kc_48_49 rfl rfl (Nat.le_of_ble_eq_true rfl) rfl rfl (Nat.le_of_ble_eq_true rfl) (hJ _ _ _ _ (by decide)) (xm_le ml_49 rfl) rfl ?_
            refine mt_49_0 hJ hov1 hov2 (d := d + 5) (x0 := x2) K.1 (fun r25 hh26 K27 => ?_)
            have br25 := xc_rng r25
            have K28 := xk_tr K K27 rfl
            refine xp_115 K28.1 (fun u29 u30 u31 u32 u33 u34 u35 u36 u37 u38 u39 u40 u41 bu29 bu30 bu31 bu32 bu33 bu34 bu35 bu36 bu37 bu38 bu39 bu40 bu41 A42 => ?_)
            have e43 : u2 = u30 := xk_eqi (q := 1) K27 rfl A14 A42 rfl rfl
            subst e43
            have e44 : u5 = u33 := xk_eqi (q := 23) K27 rfl A14 A42 rfl rfl
            subst e44
            show xw J ov (d + 7) 48 (52, [(0, .ref 115), (1, .int x1), (2, .int x2)], [.int r25], hh26) _
            refine xi_iload_n (pc' := 53) (x := x1) kc_48_52 rfl rfl ?_
            refine xi_static (mj := 49) (as := [.int x1]) (st1 := [.int r25]) (lv0 := [(0, .int x1)]) kc_48_53 rfl rfl (Nat.le_of_ble_eq_true rfl) rfl rfl (Nat.le_of_ble_eq_true rfl) (hJ _ _ _ _ (by decide)) (xm_le ml_49 rfl) rfl ?_
            refine mt_49_0 hJ hov1 hov2 (d := d + 5) (x0 := x1) K28.1 (fun r45 hh46 K47 => ?_)
            have br45 := xc_rng r45
            have K48 := xk_tr K28 K47 rfl
            refine xp_115 K48.1 (fun u49 u50 u51 u52 u53 u54 u55 u56 u57 u58 u59 u60 u61 bu49 bu50 bu51 bu52 bu53 bu54 bu55 bu56 bu57 bu58 bu59 bu60 bu61 A62 => ?_)
            have e63 : u2 = u50 := xk_eqi (q := 1) K47 rfl A42 A62 rfl rfl
            subst e63
            have e64 : u5 = u53 := xk_eqi (q := 23) K47 rfl A42 A62 rfl rfl
            subst e64
            show xw J ov (d + 7) 48 (56, [(0, .ref 115), (1, .int x1), (2, .int x2)], [.int r45, .int r25], hh46) _
            by_cases c65 : r45.toInt ≤ r25.toInt
            · refine xi_cmt (pc' := 63) kc_48_56 rfl (xc_ge_t (X := r25.toInt) (Y := r45.toInt) rfl rfl (by omega)) ?_
              refine xi_iconst (pc' := 64) (v := 0) kc_48_63 rfl rfl ?_
              refine xi_istore_n (pc' := 65) (lv' := [(3, .int 0), (0, .ref 115), (1, .int x1), (2, .int x2)]) kc_48_64 rfl rfl (xm_lt ml_48 rfl) ?_
              refine xi_iload_n (pc' := 66) (x := 0) kc_48_65 rfl rfl ?_
              refine xi_ift (pc' := 73) kc_48_66 rfl rfl ?_
              refine xi_iload_n (pc' := 74) (x := x1) kc_48_73 rfl rfl ?_
              refine xi_istore_n (pc' := 75) (lv' := [(1, .int x1), (3, .int 0), (0, .ref 115), (2, .int x2)]) kc_48_74 rfl rfl (xm_lt ml_48 rfl) ?_
              refine xcps2 (α := Int32) (x2 + 1) (fun v66 ev66 => ?_)
              have zv66 : v66.toInt = (x2.toInt + 1) := by rw [← ev66]; exact (xz_add (X := x2.toInt) (Y := 1) rfl (by decide) (by omega) (by omega)).trans (by omega)
              refine xi_iinc (pc' := 78) (x := x2) (v := v66) (lv' := [(2, .int v66), (1, .int x1), (3, .int 0), (0, .ref 115)]) kc_48_75 rfl rfl ev66 rfl (xm_lt ml_48 rfl) ?_
              refine xi_goto (pc' := 8) kc_48_78 rfl ?_
              refine xw_lv (b := [(0, .ref 115), (1, .int x1), (2, .int v66)]) (lvS_cons (lvS_cons (lvS_cons (lvS_nil (show ([2, 1, 3, 0] : List Nat).Nodup by decide)) rfl) rfl) rfl) ?_
              exact i0 x1 v66 hh46 (by omega) (by omega) K48 (by omega)
            · refine xi_cmf (pc' := 59) kc_48_56 rfl (xc_ge_f (X := r25.toInt) (Y := r45.toInt) rfl rfl (by omega)) ?_
              refine xi_iconst (pc' := 60) (v := 1) kc_48_59 rfl rfl ?_
              refine xi_goto (pc' := 64) kc_48_60 rfl ?_
              refine xi_istore_n (pc' := 65) (lv' := [(3, .int 1), (0, .ref 115), (1, .int x1), (2, .int x2)]) kc_48_64 rfl rfl (xm_lt ml_48 rfl) ?_
              refine xi_iload_n (pc' := 66) (x := 1) kc_48_65 rfl rfl ?_
              refine xi_iff (pc' := 69) kc_48_66 rfl rfl ?_
              refine xi_iload_n (pc' := 70) (x := x2) kc_48_69 rfl rfl ?_
              refine xi_goto (pc' := 74) kc_48_70 rfl ?_
              refine xi_istore_n (pc' := 75) (lv' := [(1, .int x2), (3, .int 1), (0, .ref 115), (2, .int x2)]) kc_48_74 rfl rfl (xm_lt ml_48 rfl) ?_
              refine xcps2 (α := Int32) (x2 + 1) (fun v67 ev67 => ?_)
              have zv67 : v67.toInt = (x2.toInt + 1) := by rw [← ev67]; exact (xz_add (X := x2.toInt) (Y := 1) rfl (by decide) (by omega) (by omega)).trans (by omega)
              refine xi_iinc (pc' := 78) (x := x2) (v := v67) (lv' := [(2, .int v67), (1, .int x2), (3, .int 1), (0, .ref 115)]) kc_48_75 rfl rfl ev67 rfl (xm_lt ml_48 rfl) ?_
              refine xi_goto (pc' := 8) kc_48_78 rfl ?_
              refine xw_lv (b := [(0, .ref 115), (1, .int x2), (2, .int v67)]) (lvS_cons (lvS_cons (lvS_cons (lvS_nil (show ([2, 1, 3, 0] : List Nat).Nodup by decide)) rfl) rfl) rfl) ?_
              exact i0 x2 v67 hh46 (by omega) (by omega) K48 (by omega)
          · refine xi_ift (pc' := 63) kc_48_45 rfl (xc_ne_t (X := v23.toInt) (Y := 0) rfl (by decide) (by omega)) ?_
            refine xi_iconst (pc' := 64) (v := 0) kc_48_63 rfl rfl ?_
            refine xi_istore_n (pc' := 65) (lv' := [(3, .int 0), (0, .ref 115), (1, .int x1), (2, .int x2)]) kc_48_64 rfl rfl (xm_lt ml_48 rfl) ?_
            refine xi_iload_n (pc' := 66) (x := 0) kc_48_65 rfl rfl ?_
            refine xi_ift (pc' := 73) kc_48_66 rfl rfl ?_
            refine xi_iload_n (pc' := 74) (x := x1) kc_48_73 rfl rfl ?_
            refine xi_istore_n (pc' := 75) (lv' := [(1, .int x1), (3, .int 0), (0, .ref 115), (2, .int x2)]) kc_48_74 rfl rfl (xm_lt ml_48 rfl) ?_
            refine xcps2 (α := Int32) (x2 + 1) (fun v68 ev68 => ?_)
            have zv68 : v68.toInt = (x2.toInt + 1) := by rw [← ev68]; exact (xz_add (X := x2.toInt) (Y := 1) rfl (by decide) (by omega) (by omega)).trans (by omega)
            refine xi_iinc (pc' := 78) (x := x2) (v := v68) (lv' := [(2, .int v68), (1, .int x1), (3, .int 0), (0, .ref 115)]) kc_48_75 rfl rfl ev68 rfl (xm_lt ml_48 rfl) ?_
            refine xi_goto (pc' := 8) kc_48_78 rfl ?_
            refine xw_lv (b := [(0, .ref 115), (1, .int x1), (2, .int v68)]) (lvS_cons (lvS_cons (lvS_cons (lvS_nil (show ([2, 1, 3, 0] : List Nat).Nodup by decide)) rfl) rfl) rfl) ?_
            exact i0 x1 v68 h (by omega) (by omega) K (by omega)
    · refine xi_cmf (pc' := 10) kc_42_7 rfl (xc_ge_f (X := u5.toInt) (Y := 6) rfl (by decide) (by omega)) ?_
      refine xi_aload_n (pc' := 11) (x := 115) kc_42_10 rfl rfl ?_
      refine xi_getfield (pc' := 14) (v := .int u5) kc_42_11 rfl rfl rfl A14 rfl ?_
      refine xi_goto (pc' := 19) kc_42_14 rfl ?_
      refine xcps2 (α := Int32) ((1 : Int32) <<< (u5 &&& 31)) (fun v69 ev69 => ?_)
      have rv69 := xc_rng v69
      have bv69 : 1 ≤ v69.toInt ∧ v69.toInt ≤ 64 := by rw [← ev69]; exact xj_shl6 (by omega) (by omega)
      refine xi_ishl (pc' := 20) (v := v69) kc_42_19 rfl ev69 ?_
      refine xi_ireturn kc_42_20 mr_42 rfl ?_
      show xw J ov (d + 7) 48 (13, [(0, .ref 115), (1, .int x1), (2, .int x2)], [.int v69, .int x2], h) _
      by_cases c70 : v69.toInt ≤ x2.toInt
      · refine xi_cmt (pc' := 81) kc_48_13 rfl (xc_ge_t (X := x2.toInt) (Y := v69.toInt) rfl rfl (by omega)) ?_
        refine xi_iload_n (pc' := 82) (x := x1) kc_48_81 rfl rfl ?_
        refine xi_ireturn kc_48_82 mr_48 rfl ?_
        exact kk x1 h (by omega) K
      · refine xi_cmf (pc' := 16) kc_48_13 rfl (xc_ge_f (X := x2.toInt) (Y := v69.toInt) rfl rfl (by omega)) ?_
        refine xi_aload_n (pc' := 17) (x := 115) kc_48_16 rfl rfl ?_
        refine xi_getfield (pc' := 20) (v := .ref 149) kc_48_17 rfl rfl rfl A14 rfl ?_
        refine xi_iload_n (pc' := 21) (x := x2) kc_48_20 rfl rfl ?_
        obtain ⟨y71, A71, hy71⟩ := xk_larr K.1 xD_149
        refine xcps2 (α := Int64) (y71.getD (Int32.toNatClampNeg x2) 0) (fun v72 ev72 => ?_)
        refine xi_laload (pc' := 22) (v := v72) kc_48_21 rfl A71 rfl (xi_in (by omega) (by rw [hy71]; omega)) ev72 ?_
        refine xi_aload_n (pc' := 23) (x := 115) kc_48_22 rfl rfl ?_
        refine xi_getfield (pc' := 26) (v := .ref 149) kc_48_23 rfl rfl rfl A14 rfl ?_
        refine xi_iload_n (pc' := 27) (x := x1) kc_48_26 rfl rfl ?_
        refine xcps2 (α := Int64) (y71.getD (Int32.toNatClampNeg x1) 0) (fun v73 ev73 => ?_)
        refine xi_laload (pc' := 28) (v := v73) kc_48_27 rfl A71 rfl (xi_in (by omega) (by rw [hy71]; omega)) ev73 ?_
        refine xcps2 (α := Int32) (lg_cmp v72 v73) (fun v74 ev74 => ?_)
        have rv74 := xc_rng v74
        refine xi_lcmp (pc' := 29) (v := v74) kc_48_28 rfl ev74 ?_
        by_cases c75 : v74.toInt < 0
        · refine xi_ift (pc' := 59) kc_48_29 rfl (xc_lt_t (X := v74.toInt) (Y := 0) rfl (by decide) (by omega)) ?_
          refine xi_iconst (pc' := 60) (v := 1) kc_48_59 rfl rfl ?_
          refine xi_goto (pc' := 64) kc_48_60 rfl ?_
          refine xi_istore_n (pc' := 65) (lv' := [(3, .int 1), (0, .ref 115), (1, .int x1), (2, .int x2)]) kc_48_64 rfl rfl (xm_lt ml_48 rfl) ?_
          refine xi_iload_n (pc' := 66) (x := 1) kc_48_65 rfl rfl ?_
          refine xi_iff (pc' := 69) kc_48_66 rfl rfl ?_
          refine xi_iload_n (pc' := 70) (x := x2) kc_48_69 rfl rfl ?_
          refine xi_goto (pc' := 74) kc_48_70 rfl ?_
          refine xi_istore_n (pc' := 75) (lv' := [(1, .int x2), (3, .int 1), (0, .ref 115), (2, .int x2)]) kc_48_74 rfl rfl (xm_lt ml_48 rfl) ?_
          refine xcps2 (α := Int32) (x2 + 1) (fun v76 ev76 => ?_)
          have zv76 : v76.toInt = (x2.toInt + 1) := by rw [← ev76]; exact (xz_add (X := x2.toInt) (Y := 1) rfl (by decide) (by omega) (by omega)).trans (by omega)
          refine xi_iinc (pc' := 78) (x := x2) (v := v76) (lv' := [(2, .int v76), (1, .int x2), (3, .int 1), (0, .ref 115)]) kc_48_75 rfl rfl ev76 rfl (xm_lt ml_48 rfl) ?_
          refine xi_goto (pc' := 8) kc_48_78 rfl ?_
          refine xw_lv (b := [(0, .ref 115), (1, .int x2), (2, .int v76)]) (lvS_cons (lvS_cons (lvS_cons (lvS_nil (show ([2, 1, 3, 0] : List Nat).Nodup by decide)) rfl) rfl) rfl) ?_
          exact i0 x2 v76 h (by omega) (by omega) K (by omega)
        · refine xi_iff (pc' := 32) kc_48_29 rfl (xc_lt_f (X := v74.toInt) (Y := 0) rfl (by decide) (by omega)) ?_
          refine xi_aload_n (pc' := 33) (x := 115) kc_48_32 rfl rfl ?_
          refine xi_getfield (pc' := 36) (v := .ref 149) kc_48_33 rfl rfl rfl A14 rfl ?_
          refine xi_iload_n (pc' := 37) (x := x2) kc_48_36 rfl rfl ?_
          refine xi_laload (pc' := 38) (v := v72) kc_48_37 rfl A71 rfl (xi_in (by omega) (by rw [hy71]; omega)) ev72 ?_
          refine xi_aload_n (pc' := 39) (x := 115) kc_48_38 rfl rfl ?_
          refine xi_getfield (pc' := 42) (v := .ref 149) kc_48_39 rfl rfl rfl A14 rfl ?_
          refine xi_iload_n (pc' := 43) (x := x1) kc_48_42 rfl rfl ?_
          refine xi_laload (pc' := 44) (v := v73) kc_48_43 rfl A71 rfl (xi_in (by omega) (by rw [hy71]; omega)) ev73 ?_
          refine xcps2 (α := Int32) (lg_cmp v72 v73) (fun v77 ev77 => ?_)
          have rv77 := xc_rng v77
          refine xi_lcmp (pc' := 45) (v := v77) kc_48_44 rfl ev77 ?_
          by_cases c78 : v77.toInt = 0
          · refine xi_iff (pc' := 48) kc_48_45 rfl (xc_ne_f (X := v77.toInt) (Y := 0) rfl (by decide) (by omega)) ?_
            refine xi_iload_n (pc' := 49) (x := x2) kc_48_48 rfl rfl ?_
            refine xi_static (mj := 49) (as := [.int x2]) (st1 := []) (lv0 := [(0, .int x2)]) kc_48_49 rfl rfl (Nat.le_of_ble_eq_true rfl) rfl rfl (Nat.le_of_ble_eq_true rfl) (hJ _ _ _ _ (by decide)) (xm_le ml_49 rfl) rfl ?_
            refine mt_49_0 hJ hov1 hov2 (d := d + 5) (x0 := x2) K.1 (fun r79 hh80 K81 => ?_)
            have br79 := xc_rng r79
            have K82 := xk_tr K K81 rfl
            refine xp_115 K82.1 (fun u83 u84 u85 u86 u87 u88 u89 u90 u91 u92 u93 u94 u95 bu83 bu84 bu85 bu86 bu87 bu88 bu89 bu90 bu91 bu92 bu93 bu94 bu95 A96 => ?_)
            have e97 : u2 = u84 := xk_eqi (q := 1) K81 rfl A14 A96 rfl rfl
            subst e97
            have e98 : u5 = u87 := xk_eqi (q := 23) K81 rfl A14 A96 rfl rfl
            subst e98
            show xw J ov (d + 7) 48 (52, [(0, .ref 115), (1, .int x1), (2, .int x2)], [.int r79], hh80) _
            refine xi_iload_n (pc' := 53) (x := x1) kc_48_52 rfl rfl ?_
            refine xi_static (mj := 49) (as := [.int x1]) (st1 := [.int r79]) (lv0 := [(0, .int x1)]) kc_48_53 rfl rfl (Nat.le_of_ble_eq_true rfl) rfl rfl (Nat.le_of_ble_eq_true rfl) (hJ _ _ _ _ (by decide)) (xm_le ml_49 rfl) rfl ?_
            refine mt_49_0 hJ hov1 hov2 (d := d + 5) (x0 := x1) K82.1 (fun r99 hh100 K101 => ?_)
            have br99 := xc_rng r99
            have K102 := xk_tr K82 K101 rfl
            refine xp_115 K102.1 (fun u103 u104 u105 u106 u107 u108 u109 u110 u111 u112 u113 u114 u115 bu103 bu104 bu105 bu106 bu107 bu108 bu109 bu110 bu111 bu112 bu113 bu114 bu115 A116 => ?_)
            have e117 : u2 = u104 := xk_eqi (q := 1) K101 rfl A96 A116 rfl rfl
            subst e117
            have e118 : u5 = u107 := xk_eqi (q := 23) K101 rfl A96 A116 rfl rfl
            subst e118
            show xw J ov (d + 7) 48 (56, [(0, .ref 115), (1, .int x1), (2, .int x2)], [.int r99, .int r79], hh100) _
            by_cases c119 : r99.toInt ≤ r79.toInt
            · refine xi_cmt (pc' := 63) kc_48_56 rfl (xc_ge_t (X := r79.toInt) (Y := r99.toInt) rfl rfl (by omega)) ?_
              refine xi_iconst (pc' := 64) (v := 0) kc_48_63 rfl rfl ?_
              refine xi_istore_n (pc' := 65) (lv' := [(3, .int 0), (0, .ref 115), (1, .int x1), (2, .int x2)]) kc_48_64 rfl rfl (xm_lt ml_48 rfl) ?_
              refine xi_iload_n (pc' := 66) (x := 0) kc_48_65 rfl rfl ?_
              refine xi_ift (pc' := 73) kc_48_66 rfl rfl ?_
              refine xi_iload_n (pc' := 74) (x := x1) kc_48_73 rfl rfl ?_
              refine xi_istore_n (pc' := 75) (lv' := [(1, .int x1), (3, .int 0), (0, .ref 115), (2, .int x2)]) kc_48_74 rfl rfl (xm_lt ml_48 rfl) ?_
              refine xcps2 (α := Int32) (x2 + 1) (fun v120 ev120 => ?_)
              have zv120 : v120.toInt = (x2.toInt + 1) := by rw [← ev120]; exact (xz_add (X := x2.toInt) (Y := 1) rfl (by decide) (by omega) (by omega)).trans (by omega)
              refine xi_iinc (pc' := 78) (x := x2) (v := v120) (lv' := [(2, .int v120), (1, .int x1), (3, .int 0), (0, .ref 115)]) kc_48_75 rfl rfl ev120 rfl (xm_lt ml_48 rfl) ?_
              refine xi_goto (pc' := 8) kc_48_78 rfl ?_
              refine xw_lv (b := [(0, .ref 115), (1, .int x1), (2, .int v120)]) (lvS_cons (lvS_cons (lvS_cons (lvS_nil (show ([2, 1, 3, 0] : List Nat).Nodup by decide)) rfl) rfl) rfl) ?_
              exact i0 x1 v120 hh100 (by omega) (by omega) K102 (by omega)
            · refine xi_cmf (pc' := 59) kc_48_56 rfl (xc_ge_f (X := r79.toInt) (Y := r99.toInt) rfl rfl (by omega)) ?_
              refine xi_iconst (pc' := 60) (v := 1) kc_48_59 rfl rfl ?_
              refine xi_goto (pc' := 64) kc_48_60 rfl ?_
              refine xi_istore_n (pc' := 65) (lv' := [(3, .int 1), (0, .ref 115), (1, .int x1), (2, .int x2)]) kc_48_64 rfl rfl (xm_lt ml_48 rfl) ?_
              refine xi_iload_n (pc' := 66) (x := 1) kc_48_65 rfl rfl ?_
              refine xi_iff (pc' := 69) kc_48_66 rfl rfl ?_
              refine xi_iload_n (pc' := 70) (x := x2) kc_48_69 rfl rfl ?_
              refine xi_goto (pc' := 74) kc_48_70 rfl ?_
              refine xi_istore_n (pc' := 75) (lv' := [(1, .int x2), (3, .int 1), (0, .ref 115), (2, .int x2)]) kc_48_74 rfl rfl (xm_lt ml_48 rfl) ?_
              refine xcps2 (α := Int32) (x2 + 1) (fun v121 ev121 => ?_)
              have zv121 : v121.toInt = (x2.toInt + 1) := by rw [← ev121]; exact (xz_add (X := x2.toInt) (Y := 1) rfl (by decide) (by omega) (by omega)).trans (by omega)
              refine xi_iinc (pc' := 78) (x := x2) (v := v121) (lv' := [(2, .int v121), (1, .int x2), (3, .int 1), (0, .ref 115)]) kc_48_75 rfl rfl ev121 rfl (xm_lt ml_48 rfl) ?_
              refine xi_goto (pc' := 8) kc_48_78 rfl ?_
              refine xw_lv (b := [(0, .ref 115), (1, .int x2), (2, .int v121)]) (lvS_cons (lvS_cons (lvS_cons (lvS_nil (show ([2, 1, 3, 0] : List Nat).Nodup by decide)) rfl) rfl) rfl) ?_
              exact i0 x2 v121 hh100 (by omega) (by omega) K102 (by omega)
          · refine xi_ift (pc' := 63) kc_48_45 rfl (xc_ne_t (X := v77.toInt) (Y := 0) rfl (by decide) (by omega)) ?_
            refine xi_iconst (pc' := 64) (v := 0) kc_48_63 rfl rfl ?_
            refine xi_istore_n (pc' := 65) (lv' := [(3, .int 0), (0, .ref 115), (1, .int x1), (2, .int x2)]) kc_48_64 rfl rfl (xm_lt ml_48 rfl) ?_
            refine xi_iload_n (pc' := 66) (x := 0) kc_48_65 rfl rfl ?_
            refine xi_ift (pc' := 73) kc_48_66 rfl rfl ?_
            refine xi_iload_n (pc' := 74) (x := x1) kc_48_73 rfl rfl ?_
            refine xi_istore_n (pc' := 75) (lv' := [(1, .int x1), (3, .int 0), (0, .ref 115), (2, .int x2)]) kc_48_74 rfl rfl (xm_lt ml_48 rfl) ?_
            refine xcps2 (α := Int32) (x2 + 1) (fun v122 ev122 => ?_)
            have zv122 : v122.toInt = (x2.toInt + 1) := by rw [← ev122]; exact (xz_add (X := x2.toInt) (Y := 1) rfl (by decide) (by omega) (by omega)).trans (by omega)
            refine xi_iinc (pc' := 78) (x := x2) (v := v122) (lv' := [(2, .int v122), (1, .int x1), (3, .int 0), (0, .ref 115)]) kc_48_75 rfl rfl ev122 rfl (xm_lt ml_48 rfl) ?_
            refine xi_goto (pc' := 8) kc_48_78 rfl ?_
            refine xw_lv (b := [(0, .ref 115), (1, .int x1), (2, .int v122)]) (lvS_cons (lvS_cons (lvS_cons (lvS_nil (show ([2, 1, 3, 0] : List Nat).Nodup by decide)) rfl) rfl) rfl) ?_
            exact i0 x1 v122 h (by omega) (by omega) K (by omega)
set_option maxHeartbeats 4000000 in
theorem mt_48_0 {J : xe_J} {ov : List (List Int32)} (hJ : ∀ d mj as h, mj ≠ xe_loff → J d mj as h = none) (hov1 : ov[1]? = some [10, 0, 0, 0, 0, 0]) (hov2 : ov[2]? = some [99, 30, 50, 50, 1, 99999]) {d : Nat} {Q : Option Value → xe_H → Prop} {h : xe_H} (T : xt h) (kk : (∀ (r : Int32) (h' : xe_H), (0 ≤ r.toInt ∧ r.toInt ≤ 63) → xk [(0, 9), (115, 1), (83, 0), (29, 0), (31, 0), (33, 0), (35, 0), (37, 0), (39, 0), (41, 0), (43, 0), (45, 0), (47, 0), (49, 0), (51, 0), (125, 0), (29, 2), (31, 2), (33, 2), (35, 2), (37, 2), (39, 2), (41, 2), (43, 2), (45, 2), (47, 2), (49, 2), (51, 2), (127, 0), (1, 5), (115, 23)] h h' → Q (some (.int r)) h')) : xw J ov (d + 7) 48 (0, [(0, .ref 115)], [], h) Q := by
  have K : xk [(0, 9), (115, 1), (83, 0), (29, 0), (31, 0), (33, 0), (35, 0), (37, 0), (39, 0), (41, 0), (43, 0), (45, 0), (47, 0), (49, 0), (51, 0), (125, 0), (29, 2), (31, 2), (33, 2), (35, 2), (37, 2), (39, 2), (41, 2), (43, 2), (45, 2), (47, 2), (49, 2), (51, 2), (127, 0), (1, 5), (115, 23)] h h := xk_re T
  refine xi_aload_n (pc' := 1) (x := 115) kc_48_0 rfl rfl ?_
  refine xp_115 K.1 (fun u1 u2 u3 u4 u5 u6 u7 u8 u9 u10 u11 u12 u13 bu1 bu2 bu3 bu4 bu5 bu6 bu7 bu8 bu9 bu10 bu11 bu12 bu13 A14 => ?_)
  refine xi_virtual (mj := 43) (as := []) (st1 := []) (lv0 := [(0, .ref 115)]) kc_48_1 rfl rfl rfl rfl rfl A14 (Nat.le_of_ble_eq_true rfl) (hJ _ _ _ _ (by decide)) (xm_le ml_43 rfl) rfl ?_
  refine mt_43_0 hJ hov1 hov2 (d := d)  K.1 (fun hh16 K17 => ?_)
  have K18 := xk_tr K K17 rfl
  refine xp_115 K18.1 (fun u19 u20 u21 u22 u23 u24 u25 u26 u27 u28 u29 u30 u31 bu19 bu20 bu21 bu22 bu23 bu24 bu25 bu26 bu27 bu28 bu29 bu30 bu31 A32 => ?_)
  have e33 : u2 = u20 := xk_eqi (q := 1) K17 rfl A14 A32 rfl rfl
  subst e33
  have e34 : u5 = u23 := xk_eqi (q := 23) K17 rfl A14 A32 rfl rfl
  subst e34
  show xw J ov (d + 7) 48 (4, [(0, .ref 115)], [], hh16) _
  refine xi_iconst (pc' := 5) (v := 0) kc_48_4 rfl rfl ?_
  refine xi_istore_n (pc' := 6) (lv' := [(1, .int 0), (0, .ref 115)]) kc_48_5 rfl rfl (xm_lt ml_48 rfl) ?_
  refine xi_iconst (pc' := 7) (v := 1) kc_48_6 rfl rfl ?_
  refine xi_istore_n (pc' := 8) (lv' := [(2, .int 1), (1, .int 0), (0, .ref 115)]) kc_48_7 rfl rfl (xm_lt ml_48 rfl) ?_
  have zc0 : (0 : Int32).toInt = 0 := by decide
  have zc1 : (1 : Int32).toInt = 1 := by decide
  refine xw_lv (b := [(0, .ref 115), (1, .int 0), (2, .int 1)]) (lvS_cons (lvS_cons (lvS_cons (lvS_nil (show ([2, 1, 0] : List Nat).Nodup by decide)) rfl) rfl) rfl) ?_
  exact (lp_48_0 hJ hov1 hov2 (d := d) (hb := hh16) (fun r9 h9 b9 K9 => kk r9 h9 b9 (xk_tr K18 K9 rfl)) 64) 0 1 hh16 (by omega) (by omega) (xk_re K18.1) (by omega)
set_option maxHeartbeats 4000000 in
theorem mt_47_0 {J : xe_J} {ov : List (List Int32)} (hJ : ∀ d mj as h, mj ≠ xe_loff → J d mj as h = none) (hov1 : ov[1]? = some [10, 0, 0, 0, 0, 0]) (hov2 : ov[2]? = some [99, 30, 50, 50, 1, 99999]) {d : Nat} {Q : Option Value → xe_H → Prop} {h : xe_H} (T : xt h) (kk : (∀ (r : Int32) (h' : xe_H), (0 ≤ r.toInt ∧ r.toInt ≤ 63) → xk [(0, 9), (115, 1), (83, 0), (29, 0), (31, 0), (33, 0), (35, 0), (37, 0), (39, 0), (41, 0), (43, 0), (45, 0), (47, 0), (49, 0), (51, 0), (125, 0), (29, 2), (31, 2), (33, 2), (35, 2), (37, 2), (39, 2), (41, 2), (43, 2), (45, 2), (47, 2), (49, 2), (51, 2), (127, 0), (1, 5), (115, 23)] h h' → Q (some (.int r)) h')) : xw J ov (d + 8) 47 (0, [(0, .ref 115)], [], h) Q := by
  have K : xk [(0, 9), (115, 1), (83, 0), (29, 0), (31, 0), (33, 0), (35, 0), (37, 0), (39, 0), (41, 0), (43, 0), (45, 0), (47, 0), (49, 0), (51, 0), (125, 0), (29, 2), (31, 2), (33, 2), (35, 2), (37, 2), (39, 2), (41, 2), (43, 2), (45, 2), (47, 2), (49, 2), (51, 2), (127, 0), (1, 5), (115, 23)] h h := xk_re T
  refine xi_aload_n (pc' := 1) (x := 115) kc_47_0 rfl rfl ?_
  refine xi_iconst (pc' := 2) (v := 0) kc_47_1 rfl rfl ?_
  refine xp_115 K.1 (fun u1 u2 u3 u4 u5 u6 u7 u8 u9 u10 u11 u12 u13 bu1 bu2 bu3 bu4 bu5 bu6 bu7 bu8 bu9 bu10 bu11 bu12 bu13 A14 => ?_)
  refine xi_putfield (pc' := 5) (fs' := [.int 0, .int u2, .ref 116, .ref 117, .ref 118, .ref 119, .ref 120, .ref 121, .ref 122, .ref 123, .ref 124, .ref 125, .ref 126, .ref 127, .ref 128, .ref 129, .int u3, .ref 130, .int u4, .ref 131, .ref 132, .ref 133, .ref 134, .int u5, .ref 135, .ref 136, .ref 137, .ref 138, .ref 139, .ref 140, .ref 141, .ref 142, .int u6, .int u7, .int u8, .ref 143, .ref 144, .ref 145, .ref 146, .ref 147, .ref 148, .int u9, .ref 149, .ref 150, .ref 151, .int u10, .ref 152, .ref 153, .ref 154, .ref 155, .ref 156, .ref 157, .ref 158, .ref 159, .int u11, .ref 160, .int u12, .ref 161, .ref 162, .ref 163, .ref 164, .int u13, .ref 165, .ref 166]) kc_47_2 rfl rfl rfl A14 rfl rfl rfl (Nat.le_of_ble_eq_true rfl) rfl (fun hh16 eh15 => ?_)
  have K17 := xk_pf (k := 0) (v := 0) K (xk_wf rfl) xD_115 A14 rfl (by first | omega | decide) (by first | omega | decide) eh15 rfl
  refine xi_aload_n (pc' := 6) (x := 115) kc_47_5 rfl rfl ?_
  refine xi_virtual (mj := 48) (as := []) (st1 := []) (lv0 := [(0, .ref 115)]) kc_47_6 rfl rfl rfl rfl rfl eh15.1 (Nat.le_of_ble_eq_true rfl) (hJ _ _ _ _ (by decide)) (xm_le ml_48 rfl) rfl ?_
  refine mt_48_0 hJ hov1 hov2 (d := d)  K17.1 (fun r18 hh19 br18 K20 => ?_)
  have K21 := xk_tr K17 K20 rfl
  refine xp_115 K21.1 (fun u22 u23 u24 u25 u26 u27 u28 u29 u30 u31 u32 u33 u34 bu22 bu23 bu24 bu25 bu26 bu27 bu28 bu29 bu30 bu31 bu32 bu33 bu34 A35 => ?_)
  have e36 : u2 = u23 := xk_eqi (q := 1) K20 rfl eh15.1 A35 rfl rfl
  subst e36
  have e37 : u5 = u26 := xk_eqi (q := 23) K20 rfl eh15.1 A35 rfl rfl
  subst e37
  show xw J ov (d + 8) 47 (9, [(0, .ref 115)], [.int r18], hh19) _
  refine xi_ireturn kc_47_9 mr_47 rfl ?_
  exact kk r18 hh19 (by omega) K21
set_option maxHeartbeats 4000000 in
theorem lp_50_0 {J : xe_J} {ov : List (List Int32)} (hJ : ∀ d mj as h, mj ≠ xe_loff → J d mj as h = none) (hov1 : ov[1]? = some [10, 0, 0, 0, 0, 0]) (hov2 : ov[2]? = some [99, 30, 50, 50, 1, 99999]) {d : Nat} {Q : Option Value → xe_H → Prop} {hb : xe_H} (kk : (∀ (r : Int32) (h' : xe_H), xk [(0, 9), (115, 1), (83, 0), (29, 0), (31, 0), (33, 0), (35, 0), (37, 0), (39, 0), (41, 0), (43, 0), (45, 0), (47, 0), (49, 0), (51, 0), (125, 0), (29, 2), (31, 2), (33, 2), (35, 2), (37, 2), (39, 2), (41, 2), (43, 2), (45, 2), (47, 2), (49, 2), (51, 2), (127, 0), (1, 5), (115, 23)] hb h' → Q (some (.int r)) h')) : ∀ m : Nat, (∀ (x1 : Int32) (x2 : Int32) (x3 : Int32) (x4 : Int32) (h : xe_H), (0 ≤ x1.toInt ∧ x1.toInt ≤ 1) → (0 ≤ x4.toInt ∧ x4.toInt ≤ 64) → xk [(0, 9), (115, 1), (83, 0), (29, 0), (31, 0), (33, 0), (35, 0), (37, 0), (39, 0), (41, 0), (43, 0), (45, 0), (47, 0), (49, 0), (51, 0), (125, 0), (29, 2), (31, 2), (33, 2), (35, 2), (37, 2), (39, 2), (41, 2), (43, 2), (45, 2), (47, 2), (49, 2), (51, 2), (127, 0), (1, 5), (115, 23)] hb h → (-1) * x4.toInt + 64 < (m : Int) → xw J ov (d + 7) 50 (33, [(0, .ref 115), (1, .int x1), (2, .int x2), (3, .int x3), (4, .int x4)], [], h) Q) := by
  intro m
  induction m with
  | zero =>
    intro x1 x2 x3 x4 h b1 b4 K hm; have rx2 := xc_rng x2; have rx3 := xc_rng x3; exfalso; omega
  | succ m ih =>
    have i0 := ih
    intro x1 x2 x3 x4 h b1 b4 K hm
    have rx2 := xc_rng x2
    have rx3 := xc_rng x3
    refine xi_iload (pc' := 35) (x := x4) kc_50_33 rfl rfl ?_
    refine xi_aload_n (pc' := 36) (x := 115) kc_50_35 rfl rfl ?_
    refine xp_115 K.1 (fun u1 u2 u3 u4 u5 u6 u7 u8 u9 u10 u11 u12 u13 bu1 bu2 bu3 bu4 bu5 bu6 bu7 bu8 bu9 bu10 bu11 bu12 bu13 A14 => ?_)
    refine xi_virtual (mj := 42) (as := []) (st1 := [.int x4]) (lv0 := [(0, .ref 115)]) kc_50_36 rfl rfl rfl rfl rfl A14 (Nat.le_of_ble_eq_true rfl) (hJ _ _ _ _ (by decide)) (xm_le ml_42 rfl) rfl ?_
    refine xi_iconst (pc' := 1) (v := 1) kc_42_0 rfl rfl ?_
    refine xi_aload_n (pc' := 2) (x := 115) kc_42_1 rfl rfl ?_
    refine xi_getfield (pc' := 5) (v := .int u5) kc_42_2 rfl rfl rfl A14 rfl ?_
    refine xi_bipush (pc' := 7) (v := 6) kc_42_5 rfl rfl ?_
    by_cases c15 : 6 ≤ u5.toInt
    · refine xi_cmt (pc' := 17) kc_42_7 rfl (xc_ge_t (X := u5.toInt) (Y := 6) rfl (by decide) (by omega)) ?_
      refine xi_bipush (pc' := 19) (v := 6) kc_42_17 rfl rfl ?_
      refine xi_ishl (pc' := 20) (v := 64) kc_42_19 rfl rfl ?_
      refine xi_ireturn kc_42_20 mr_42 rfl ?_
      show xw J ov (d + 7) 50 (39, [(0, .ref 115), (1, .int x1), (2, .int x2), (3, .int x3), (4, .int x4)], [.int 64, .int x4], h) _
      by_cases c16 : 64 ≤ x4.toInt
      · refine xi_cmt (pc' := 109) kc_50_39 rfl (xc_ge_t (X := x4.toInt) (Y := 64) rfl (by decide) (by omega)) ?_
        refine xi_iload_n (pc' := 110) (x := x2) kc_50_109 rfl rfl ?_
        by_cases c17 : x2.toInt = 0
        · refine xi_iff (pc' := 113) kc_50_110 rfl (xc_ne_f (X := x2.toInt) (Y := 0) rfl (by decide) (by omega)) ?_
          refine xi_bipush (pc' := 115) (v := (-9)) kc_50_113 rfl rfl ?_
          refine xi_goto (pc' := 127) kc_50_115 rfl ?_
          refine xi_ireturn kc_50_127 mr_50 rfl ?_
          have zcm9 : ((-9) : Int32).toInt = (-9) := by decide
          exact kk (-9) h K
        · refine xi_ift (pc' := 118) kc_50_110 rfl (xc_ne_t (X := x2.toInt) (Y := 0) rfl (by decide) (by omega)) ?_
          refine xi_iload_n (pc' := 119) (x := x1) kc_50_118 rfl rfl ?_
          by_cases c18 : x1.toInt = 0
          · refine xi_iff (pc' := 122) kc_50_119 rfl (xc_ne_f (X := x1.toInt) (Y := 0) rfl (by decide) (by omega)) ?_
            refine xi_iload_n (pc' := 123) (x := x2) kc_50_122 rfl rfl ?_
            refine xi_goto (pc' := 127) kc_50_123 rfl ?_
            refine xi_ireturn kc_50_127 mr_50 rfl ?_
            exact kk x2 h K
          · refine xi_ift (pc' := 126) kc_50_119 rfl (xc_ne_t (X := x1.toInt) (Y := 0) rfl (by decide) (by omega)) ?_
            refine xi_iload_n (pc' := 127) (x := x3) kc_50_126 rfl rfl ?_
            refine xi_ireturn kc_50_127 mr_50 rfl ?_
            exact kk x3 h K
      · refine xi_cmf (pc' := 42) kc_50_39 rfl (xc_ge_f (X := x4.toInt) (Y := 64) rfl (by decide) (by omega)) ?_
        refine xi_aload_n (pc' := 43) (x := 115) kc_50_42 rfl rfl ?_
        refine xi_getfield (pc' := 46) (v := .ref 149) kc_50_43 rfl rfl rfl A14 rfl ?_
        refine xi_iload (pc' := 48) (x := x4) kc_50_46 rfl rfl ?_
        obtain ⟨y19, A19, hy19⟩ := xk_larr K.1 xD_149
        refine xcps2 (α := Int64) (y19.getD (Int32.toNatClampNeg x4) 0) (fun v20 ev20 => ?_)
        refine xi_laload (pc' := 49) (v := v20) kc_50_48 rfl A19 rfl (xi_in (by omega) (by rw [hy19]; omega)) ev20 ?_
        refine xi_lconst (pc' := 50) (v := 0) kc_50_49 rfl rfl ?_
        refine xcps2 (α := Int32) (lg_cmp v20 0) (fun v21 ev21 => ?_)
        have rv21 := xc_rng v21
        refine xi_lcmp (pc' := 51) (v := v21) kc_50_50 rfl ev21 ?_
        by_cases c22 : v21.toInt = 0
        · refine xi_iff (pc' := 54) kc_50_51 rfl (xc_ne_f (X := v21.toInt) (Y := 0) rfl (by decide) (by omega)) ?_
          refine xi_iload (pc' := 56) (x := x4) kc_50_54 rfl rfl ?_
          refine xi_static (mj := 49) (as := [.int x4]) (st1 := []) (lv0 := [(0, .int x4)]) kc_50_56 rfl rfl (Nat.le_of_ble_eq_true rfl) rfl rfl (Nat.le_of_ble_eq_true rfl) (hJ _ _ _ _ (by decide)) (xm_le ml_49 rfl) rfl ?_
          refine mt_49_0 hJ hov1 hov2 (d := d + 5) (x0 := x4) K.1 (fun r23 hh24 K25 => ?_)
          have br23 := xc_rng r23
          have K26 := xk_tr K K25 rfl
          refine xp_115 K26.1 (fun u27 u28 u29 u30 u31 u32 u33 u34 u35 u36 u37 u38 u39 bu27 bu28 bu29 bu30 bu31 bu32 bu33 bu34 bu35 bu36 bu37 bu38 bu39 A40 => ?_)
          have e41 : u2 = u28 := xk_eqi (q := 1) K25 rfl A14 A40 rfl rfl
          subst e41
          have e42 : u5 = u31 := xk_eqi (q := 23) K25 rfl A14 A40 rfl rfl
          subst e42
          show xw J ov (d + 7) 50 (59, [(0, .ref 115), (1, .int x1), (2, .int x2), (3, .int x3), (4, .int x4)], [.int r23], hh24) _
          refine xi_iload_n (pc' := 60) (x := x3) kc_50_59 rfl rfl ?_
          by_cases c43 : x3.toInt ≤ r23.toInt
          · refine xi_cmt (pc' := 67) kc_50_60 rfl (xc_ge_t (X := r23.toInt) (Y := x3.toInt) rfl rfl (by omega)) ?_
            refine xi_iload (pc' := 69) (x := x4) kc_50_67 rfl rfl ?_
            refine xi_static (mj := 49) (as := [.int x4]) (st1 := []) (lv0 := [(0, .int x4)]) kc_50_69 rfl rfl (Nat.le_of_ble_eq_true rfl) rfl rfl (Nat.le_of_ble_eq_true rfl) (hJ _ _ _ _ (by decide)) (xm_le ml_49 rfl) rfl ?_
            refine mt_49_0 hJ hov1 hov2 (d := d + 5) (x0 := x4) K26.1 (fun r44 hh45 K46 => ?_)
            have br44 := xc_rng r44
            have K47 := xk_tr K26 K46 rfl
            refine xp_115 K47.1 (fun u48 u49 u50 u51 u52 u53 u54 u55 u56 u57 u58 u59 u60 bu48 bu49 bu50 bu51 bu52 bu53 bu54 bu55 bu56 bu57 bu58 bu59 bu60 A61 => ?_)
            have e62 : u2 = u49 := xk_eqi (q := 1) K46 rfl A40 A61 rfl rfl
            subst e62
            have e63 : u5 = u52 := xk_eqi (q := 23) K46 rfl A40 A61 rfl rfl
            subst e63
            show xw J ov (d + 7) 50 (72, [(0, .ref 115), (1, .int x1), (2, .int x2), (3, .int x3), (4, .int x4)], [.int r44], hh45) _
            refine xi_iload_n (pc' := 73) (x := x3) kc_50_72 rfl rfl ?_
            by_cases c64 : r44.toInt = x3.toInt
            · refine xi_cmf (pc' := 76) kc_50_73 rfl (xc_ne_f (X := r44.toInt) (Y := x3.toInt) rfl rfl (by omega)) ?_
              refine xi_iload_n (pc' := 77) (x := x2) kc_50_76 rfl rfl ?_
              refine xi_iconst (pc' := 78) (v := 1) kc_50_77 rfl rfl ?_
              refine xcps2 (α := Int32) ((x2 : Int32) + 1) (fun v65 ev65 => ?_)
              have rv65 := xc_rng v65
              refine xi_iadd (pc' := 79) (v := v65) kc_50_78 rfl ev65 ?_
              refine xi_goto (pc' := 83) kc_50_79 rfl ?_
              refine xi_istore_n (pc' := 84) (lv' := [(2, .int v65), (0, .ref 115), (1, .int x1), (3, .int x3), (4, .int x4)]) kc_50_83 rfl rfl (xm_lt ml_50 rfl) ?_
              refine xi_iload (pc' := 86) (x := x4) kc_50_84 rfl rfl ?_
              refine xi_static (mj := 49) (as := [.int x4]) (st1 := []) (lv0 := [(0, .int x4)]) kc_50_86 rfl rfl (Nat.le_of_ble_eq_true rfl) rfl rfl (Nat.le_of_ble_eq_true rfl) (hJ _ _ _ _ (by decide)) (xm_le ml_49 rfl) rfl ?_
              refine mt_49_0 hJ hov1 hov2 (d := d + 5) (x0 := x4) K47.1 (fun r66 hh67 K68 => ?_)
              have br66 := xc_rng r66
              have K69 := xk_tr K47 K68 rfl
              refine xp_115 K69.1 (fun u70 u71 u72 u73 u74 u75 u76 u77 u78 u79 u80 u81 u82 bu70 bu71 bu72 bu73 bu74 bu75 bu76 bu77 bu78 bu79 bu80 bu81 bu82 A83 => ?_)
              have e84 : u2 = u71 := xk_eqi (q := 1) K68 rfl A61 A83 rfl rfl
              subst e84
              have e85 : u5 = u74 := xk_eqi (q := 23) K68 rfl A61 A83 rfl rfl
              subst e85
              show xw J ov (d + 7) 50 (89, [(2, .int v65), (0, .ref 115), (1, .int x1), (3, .int x3), (4, .int x4)], [.int r66], hh67) _
              refine xi_iload_n (pc' := 90) (x := x3) kc_50_89 rfl rfl ?_
              by_cases c86 : x3.toInt ≤ r66.toInt
              · refine xi_cmt (pc' := 101) kc_50_90 rfl (xc_ge_t (X := r66.toInt) (Y := x3.toInt) rfl rfl (by omega)) ?_
                refine xi_iload_n (pc' := 102) (x := x3) kc_50_101 rfl rfl ?_
                refine xi_istore_n (pc' := 103) (lv' := [(3, .int x3), (2, .int v65), (0, .ref 115), (1, .int x1), (4, .int x4)]) kc_50_102 rfl rfl (xm_lt ml_50 rfl) ?_
                refine xcps2 (α := Int32) (x4 + 1) (fun v87 ev87 => ?_)
                have zv87 : v87.toInt = (x4.toInt + 1) := by rw [← ev87]; exact (xz_add (X := x4.toInt) (Y := 1) rfl (by decide) (by omega) (by omega)).trans (by omega)
                refine xi_iinc (pc' := 106) (x := x4) (v := v87) (lv' := [(4, .int v87), (3, .int x3), (2, .int v65), (0, .ref 115), (1, .int x1)]) kc_50_103 rfl rfl ev87 rfl (xm_lt ml_50 rfl) ?_
                refine xi_goto (pc' := 33) kc_50_106 rfl ?_
                refine xw_lv (b := [(0, .ref 115), (1, .int x1), (2, .int v65), (3, .int x3), (4, .int v87)]) (lvS_cons (lvS_cons (lvS_cons (lvS_cons (lvS_cons (lvS_nil (show ([4, 3, 2, 0, 1] : List Nat).Nodup by decide)) rfl) rfl) rfl) rfl) rfl) ?_
                exact i0 x1 v65 x3 v87 hh67 (by omega) (by omega) K69 (by omega)
              · refine xi_cmf (pc' := 93) kc_50_90 rfl (xc_ge_f (X := r66.toInt) (Y := x3.toInt) rfl rfl (by omega)) ?_
                refine xi_iload (pc' := 95) (x := x4) kc_50_93 rfl rfl ?_
                refine xi_static (mj := 49) (as := [.int x4]) (st1 := []) (lv0 := [(0, .int x4)]) kc_50_95 rfl rfl (Nat.le_of_ble_eq_true rfl) rfl rfl (Nat.le_of_ble_eq_true rfl) (hJ _ _ _ _ (by decide)) (xm_le ml_49 rfl) rfl ?_
                refine mt_49_0 hJ hov1 hov2 (d := d + 5) (x0 := x4) K69.1 (fun r88 hh89 K90 => ?_)
                have br88 := xc_rng r88
                have K91 := xk_tr K69 K90 rfl
                refine xp_115 K91.1 (fun u92 u93 u94 u95 u96 u97 u98 u99 u100 u101 u102 u103 u104 bu92 bu93 bu94 bu95 bu96 bu97 bu98 bu99 bu100 bu101 bu102 bu103 bu104 A105 => ?_)
                have e106 : u2 = u93 := xk_eqi (q := 1) K90 rfl A83 A105 rfl rfl
                subst e106
                have e107 : u5 = u96 := xk_eqi (q := 23) K90 rfl A83 A105 rfl rfl
                subst e107
                show xw J ov (d + 7) 50 (98, [(2, .int v65), (0, .ref 115), (1, .int x1), (3, .int x3), (4, .int x4)], [.int r88], hh89) _
                refine xi_goto (pc' := 102) kc_50_98 rfl ?_
                refine xi_istore_n (pc' := 103) (lv' := [(3, .int r88), (2, .int v65), (0, .ref 115), (1, .int x1), (4, .int x4)]) kc_50_102 rfl rfl (xm_lt ml_50 rfl) ?_
                refine xcps2 (α := Int32) (x4 + 1) (fun v108 ev108 => ?_)
                have zv108 : v108.toInt = (x4.toInt + 1) := by rw [← ev108]; exact (xz_add (X := x4.toInt) (Y := 1) rfl (by decide) (by omega) (by omega)).trans (by omega)
                refine xi_iinc (pc' := 106) (x := x4) (v := v108) (lv' := [(4, .int v108), (3, .int r88), (2, .int v65), (0, .ref 115), (1, .int x1)]) kc_50_103 rfl rfl ev108 rfl (xm_lt ml_50 rfl) ?_
                refine xi_goto (pc' := 33) kc_50_106 rfl ?_
                refine xw_lv (b := [(0, .ref 115), (1, .int x1), (2, .int v65), (3, .int r88), (4, .int v108)]) (lvS_cons (lvS_cons (lvS_cons (lvS_cons (lvS_cons (lvS_nil (show ([4, 3, 2, 0, 1] : List Nat).Nodup by decide)) rfl) rfl) rfl) rfl) rfl) ?_
                exact i0 x1 v65 r88 v108 hh89 (by omega) (by omega) K91 (by omega)
            · refine xi_cmt (pc' := 82) kc_50_73 rfl (xc_ne_t (X := r44.toInt) (Y := x3.toInt) rfl rfl (by omega)) ?_
              refine xi_iload_n (pc' := 83) (x := x2) kc_50_82 rfl rfl ?_
              refine xi_istore_n (pc' := 84) (lv' := [(2, .int x2), (0, .ref 115), (1, .int x1), (3, .int x3), (4, .int x4)]) kc_50_83 rfl rfl (xm_lt ml_50 rfl) ?_
              refine xi_iload (pc' := 86) (x := x4) kc_50_84 rfl rfl ?_
              refine xi_static (mj := 49) (as := [.int x4]) (st1 := []) (lv0 := [(0, .int x4)]) kc_50_86 rfl rfl (Nat.le_of_ble_eq_true rfl) rfl rfl (Nat.le_of_ble_eq_true rfl) (hJ _ _ _ _ (by decide)) (xm_le ml_49 rfl) rfl ?_
              refine mt_49_0 hJ hov1 hov2 (d := d + 5) (x0 := x4) K47.1 (fun r109 hh110 K111 => ?_)
              have br109 := xc_rng r109
              have K112 := xk_tr K47 K111 rfl
              refine xp_115 K112.1 (fun u113 u114 u115 u116 u117 u118 u119 u120 u121 u122 u123 u124 u125 bu113 bu114 bu115 bu116 bu117 bu118 bu119 bu120 bu121 bu122 bu123 bu124 bu125 A126 => ?_)
              have e127 : u2 = u114 := xk_eqi (q := 1) K111 rfl A61 A126 rfl rfl
              subst e127
              have e128 : u5 = u117 := xk_eqi (q := 23) K111 rfl A61 A126 rfl rfl
              subst e128
              show xw J ov (d + 7) 50 (89, [(2, .int x2), (0, .ref 115), (1, .int x1), (3, .int x3), (4, .int x4)], [.int r109], hh110) _
              refine xi_iload_n (pc' := 90) (x := x3) kc_50_89 rfl rfl ?_
              by_cases c129 : x3.toInt ≤ r109.toInt
              · refine xi_cmt (pc' := 101) kc_50_90 rfl (xc_ge_t (X := r109.toInt) (Y := x3.toInt) rfl rfl (by omega)) ?_
                refine xi_iload_n (pc' := 102) (x := x3) kc_50_101 rfl rfl ?_
                refine xi_istore_n (pc' := 103) (lv' := [(3, .int x3), (2, .int x2), (0, .ref 115), (1, .int x1), (4, .int x4)]) kc_50_102 rfl rfl (xm_lt ml_50 rfl) ?_
                refine xcps2 (α := Int32) (x4 + 1) (fun v130 ev130 => ?_)
                have zv130 : v130.toInt = (x4.toInt + 1) := by rw [← ev130]; exact (xz_add (X := x4.toInt) (Y := 1) rfl (by decide) (by omega) (by omega)).trans (by omega)
                refine xi_iinc (pc' := 106) (x := x4) (v := v130) (lv' := [(4, .int v130), (3, .int x3), (2, .int x2), (0, .ref 115), (1, .int x1)]) kc_50_103 rfl rfl ev130 rfl (xm_lt ml_50 rfl) ?_
                refine xi_goto (pc' := 33) kc_50_106 rfl ?_
                refine xw_lv (b := [(0, .ref 115), (1, .int x1), (2, .int x2), (3, .int x3), (4, .int v130)]) (lvS_cons (lvS_cons (lvS_cons (lvS_cons (lvS_cons (lvS_nil (show ([4, 3, 2, 0, 1] : List Nat).Nodup by decide)) rfl) rfl) rfl) rfl) rfl) ?_
                exact i0 x1 x2 x3 v130 hh110 (by omega) (by omega) K112 (by omega)
              · refine xi_cmf (pc' := 93) kc_50_90 rfl (xc_ge_f (X := r109.toInt) (Y := x3.toInt) rfl rfl (by omega)) ?_
                refine xi_iload (pc' := 95) (x := x4) kc_50_93 rfl rfl ?_
                refine xi_static (mj := 49) (as := [.int x4]) (st1 := []) (lv0 := [(0, .int x4)]) kc_50_95 rfl rfl (Nat.le_of_ble_eq_true rfl) rfl rfl (Nat.le_of_ble_eq_true rfl) (hJ _ _ _ _ (by decide)) (xm_le ml_49 rfl) rfl ?_
                refine mt_49_0 hJ hov1 hov2 (d := d + 5) (x0 := x4) K112.1 (fun r131 hh132 K133 => ?_)
                have br131 := xc_rng r131
                have K134 := xk_tr K112 K133 rfl
                refine xp_115 K134.1 (fun u135 u136 u137 u138 u139 u140 u141 u142 u143 u144 u145 u146 u147 bu135 bu136 bu137 bu138 bu139 bu140 bu141 bu142 bu143 bu144 bu145 bu146 bu147 A148 => ?_)
                have e149 : u2 = u136 := xk_eqi (q := 1) K133 rfl A126 A148 rfl rfl
                subst e149
                have e150 : u5 = u139 := xk_eqi (q := 23) K133 rfl A126 A148 rfl rfl
                subst e150
                show xw J ov (d + 7) 50 (98, [(2, .int x2), (0, .ref 115), (1, .int x1), (3, .int x3), (4, .int x4)], [.int r131], hh132) _
                refine xi_goto (pc' := 102) kc_50_98 rfl ?_
                refine xi_istore_n (pc' := 103) (lv' := [(3, .int r131), (2, .int x2), (0, .ref 115), (1, .int x1), (4, .int x4)]) kc_50_102 rfl rfl (xm_lt ml_50 rfl) ?_
                refine xcps2 (α := Int32) (x4 + 1) (fun v151 ev151 => ?_)
                have zv151 : v151.toInt = (x4.toInt + 1) := by rw [← ev151]; exact (xz_add (X := x4.toInt) (Y := 1) rfl (by decide) (by omega) (by omega)).trans (by omega)
                refine xi_iinc (pc' := 106) (x := x4) (v := v151) (lv' := [(4, .int v151), (3, .int r131), (2, .int x2), (0, .ref 115), (1, .int x1)]) kc_50_103 rfl rfl ev151 rfl (xm_lt ml_50 rfl) ?_
                refine xi_goto (pc' := 33) kc_50_106 rfl ?_
                refine xw_lv (b := [(0, .ref 115), (1, .int x1), (2, .int x2), (3, .int r131), (4, .int v151)]) (lvS_cons (lvS_cons (lvS_cons (lvS_cons (lvS_cons (lvS_nil (show ([4, 3, 2, 0, 1] : List Nat).Nodup by decide)) rfl) rfl) rfl) rfl) rfl) ?_
                exact i0 x1 x2 r131 v151 hh132 (by omega) (by omega) K134 (by omega)
          · refine xi_cmf (pc' := 63) kc_50_60 rfl (xc_ge_f (X := r23.toInt) (Y := x3.toInt) rfl rfl (by omega)) ?_
            refine xi_iconst (pc' := 64) (v := 1) kc_50_63 rfl rfl ?_
            refine xi_goto (pc' := 83) kc_50_64 rfl ?_
            refine xi_istore_n (pc' := 84) (lv' := [(2, .int 1), (0, .ref 115), (1, .int x1), (3, .int x3), (4, .int x4)]) kc_50_83 rfl rfl (xm_lt ml_50 rfl) ?_
            refine xi_iload (pc' := 86) (x := x4) kc_50_84 rfl rfl ?_
            refine xi_static (mj := 49) (as := [.int x4]) (st1 := []) (lv0 := [(0, .int x4)]) kc_50_86 rfl rfl (Nat.le_of_ble_eq_true rfl) rfl rfl (Nat.le_of_ble_eq_true rfl) (hJ _ _ _ _ (by decide)) (xm_le ml_49 rfl) rfl ?_
            refine mt_49_0 hJ hov1 hov2 (d := d + 5) (x0 := x4) K26.1 (fun r152 hh153 K154 => ?_)
            have br152 := xc_rng r152
            have K155 := xk_tr K26 K154 rfl
            refine xp_115 K155.1 (fun u156 u157 u158 u159 u160 u161 u162 u163 u164 u165 u166 u167 u168 bu156 bu157 bu158 bu159 bu160 bu161 bu162 bu163 bu164 bu165 bu166 bu167 bu168 A169 => ?_)
            have e170 : u2 = u157 := xk_eqi (q := 1) K154 rfl A40 A169 rfl rfl
            subst e170
            have e171 : u5 = u160 := xk_eqi (q := 23) K154 rfl A40 A169 rfl rfl
            subst e171
            show xw J ov (d + 7) 50 (89, [(2, .int 1), (0, .ref 115), (1, .int x1), (3, .int x3), (4, .int x4)], [.int r152], hh153) _
            refine xi_iload_n (pc' := 90) (x := x3) kc_50_89 rfl rfl ?_
            by_cases c172 : x3.toInt ≤ r152.toInt
            · refine xi_cmt (pc' := 101) kc_50_90 rfl (xc_ge_t (X := r152.toInt) (Y := x3.toInt) rfl rfl (by omega)) ?_
              refine xi_iload_n (pc' := 102) (x := x3) kc_50_101 rfl rfl ?_
              refine xi_istore_n (pc' := 103) (lv' := [(3, .int x3), (2, .int 1), (0, .ref 115), (1, .int x1), (4, .int x4)]) kc_50_102 rfl rfl (xm_lt ml_50 rfl) ?_
              refine xcps2 (α := Int32) (x4 + 1) (fun v173 ev173 => ?_)
              have zv173 : v173.toInt = (x4.toInt + 1) := by rw [← ev173]; exact (xz_add (X := x4.toInt) (Y := 1) rfl (by decide) (by omega) (by omega)).trans (by omega)
              refine xi_iinc (pc' := 106) (x := x4) (v := v173) (lv' := [(4, .int v173), (3, .int x3), (2, .int 1), (0, .ref 115), (1, .int x1)]) kc_50_103 rfl rfl ev173 rfl (xm_lt ml_50 rfl) ?_
              refine xi_goto (pc' := 33) kc_50_106 rfl ?_
              have zc1 : (1 : Int32).toInt = 1 := by decide
              refine xw_lv (b := [(0, .ref 115), (1, .int x1), (2, .int 1), (3, .int x3), (4, .int v173)]) (lvS_cons (lvS_cons (lvS_cons (lvS_cons (lvS_cons (lvS_nil (show ([4, 3, 2, 0, 1] : List Nat).Nodup by decide)) rfl) rfl) rfl) rfl) rfl) ?_
              exact i0 x1 1 x3 v173 hh153 (by omega) (by omega) K155 (by omega)
            · refine xi_cmf (pc' := 93) kc_50_90 rfl (xc_ge_f (X := r152.toInt) (Y := x3.toInt) rfl rfl (by omega)) ?_
              refine xi_iload (pc' := 95) (x := x4) kc_50_93 rfl rfl ?_
              refine xi_static (mj := 49) (as := [.int x4]) (st1 := []) (lv0 := [(0, .int x4)]) kc_50_95 rfl rfl (Nat.le_of_ble_eq_true rfl) rfl rfl (Nat.le_of_ble_eq_true rfl) (hJ _ _ _ _ (by decide)) (xm_le ml_49 rfl) rfl ?_
              refine mt_49_0 hJ hov1 hov2 (d := d + 5) (x0 := x4) K155.1 (fun r174 hh175 K176 => ?_)
              have br174 := xc_rng r174
              have K177 := xk_tr K155 K176 rfl
              refine xp_115 K177.1 (fun u178 u179 u180 u181 u182 u183 u184 u185 u186 u187 u188 u189 u190 bu178 bu179 bu180 bu181 bu182 bu183 bu184 bu185 bu186 bu187 bu188 bu189 bu190 A191 => ?_)
              have e192 : u2 = u179 := xk_eqi (q := 1) K176 rfl A169 A191 rfl rfl
              subst e192
              have e193 : u5 = u182 := xk_eqi (q := 23) K176 rfl A169 A191 rfl rfl
              subst e193
              show xw J ov (d + 7) 50 (98, [(2, .int 1), (0, .ref 115), (1, .int x1), (3, .int x3), (4, .int x4)], [.int r174], hh175) _
              refine xi_goto (pc' := 102) kc_50_98 rfl ?_
              refine xi_istore_n (pc' := 103) (lv' := [(3, .int r174), (2, .int 1), (0, .ref 115), (1, .int x1), (4, .int x4)]) kc_50_102 rfl rfl (xm_lt ml_50 rfl) ?_
              refine xcps2 (α := Int32) (x4 + 1) (fun v194 ev194 => ?_)
              have zv194 : v194.toInt = (x4.toInt + 1) := by rw [← ev194]; exact (xz_add (X := x4.toInt) (Y := 1) rfl (by decide) (by omega) (by omega)).trans (by omega)
              refine xi_iinc (pc' := 106) (x := x4) (v := v194) (lv' := [(4, .int v194), (3, .int r174), (2, .int 1), (0, .ref 115), (1, .int x1)]) kc_50_103 rfl rfl ev194 rfl (xm_lt ml_50 rfl) ?_
              refine xi_goto (pc' := 33) kc_50_106 rfl ?_
              have zc1 : (1 : Int32).toInt = 1 := by decide
              refine xw_lv (b := [(0, .ref 115), (1, .int x1), (2, .int 1), (3, .int r174), (4, .int v194)]) (lvS_cons (lvS_cons (lvS_cons (lvS_cons (lvS_cons (lvS_nil (show ([4, 3, 2, 0, 1] : List Nat).Nodup by decide)) rfl) rfl) rfl) rfl) rfl) ?_
              exact i0 x1 1 r174 v194 hh175 (by omega) (by omega) K177 (by omega)
        · have zv20c22 : v20 ≠ 0 := xj_lc ev21 (by omega)
          refine xi_ift (pc' := 103) kc_50_51 rfl (xc_ne_t (X := v21.toInt) (Y := 0) rfl (by decide) (by omega)) ?_
          refine xcps2 (α := Int32) (x4 + 1) (fun v195 ev195 => ?_)
          have zv195 : v195.toInt = (x4.toInt + 1) := by rw [← ev195]; exact (xz_add (X := x4.toInt) (Y := 1) rfl (by decide) (by omega) (by omega)).trans (by omega)
          refine xi_iinc (pc' := 106) (x := x4) (v := v195) (lv' := [(4, .int v195), (0, .ref 115), (1, .int x1), (2, .int x2), (3, .int x3)]) kc_50_103 rfl rfl ev195 rfl (xm_lt ml_50 rfl) ?_
          refine xi_goto (pc' := 33) kc_50_106 rfl ?_
          refine xw_lv (b := [(0, .ref 115), (1, .int x1), (2, .int x2), (3, .int x3), (4, .int v195)]) (lvS_cons (lvS_cons (lvS_cons (lvS_cons (lvS_cons (lvS_nil (show ([4, 0, 1, 2, 3] : List Nat).Nodup by decide)) rfl) rfl) rfl) rfl) rfl) ?_
          exact i0 x1 x2 x3 v195 h (by omega) (by omega) K (by omega)
    · refine xi_cmf (pc' := 10) kc_42_7 rfl (xc_ge_f (X := u5.toInt) (Y := 6) rfl (by decide) (by omega)) ?_
      refine xi_aload_n (pc' := 11) (x := 115) kc_42_10 rfl rfl ?_
      refine xi_getfield (pc' := 14) (v := .int u5) kc_42_11 rfl rfl rfl A14 rfl ?_
      refine xi_goto (pc' := 19) kc_42_14 rfl ?_
      refine xcps2 (α := Int32) ((1 : Int32) <<< (u5 &&& 31)) (fun v196 ev196 => ?_)
      have rv196 := xc_rng v196
      have bv196 : 1 ≤ v196.toInt ∧ v196.toInt ≤ 64 := by rw [← ev196]; exact xj_shl6 (by omega) (by omega)
      refine xi_ishl (pc' := 20) (v := v196) kc_42_19 rfl ev196 ?_
      refine xi_ireturn kc_42_20 mr_42 rfl ?_
      show xw J ov (d + 7) 50 (39, [(0, .ref 115), (1, .int x1), (2, .int x2), (3, .int x3), (4, .int x4)], [.int v196, .int x4], h) _
      by_cases c197 : v196.toInt ≤ x4.toInt
      · refine xi_cmt (pc' := 109) kc_50_39 rfl (xc_ge_t (X := x4.toInt) (Y := v196.toInt) rfl rfl (by omega)) ?_
        refine xi_iload_n (pc' := 110) (x := x2) kc_50_109 rfl rfl ?_
        by_cases c198 : x2.toInt = 0
        · refine xi_iff (pc' := 113) kc_50_110 rfl (xc_ne_f (X := x2.toInt) (Y := 0) rfl (by decide) (by omega)) ?_
          refine xi_bipush (pc' := 115) (v := (-9)) kc_50_113 rfl rfl ?_
          refine xi_goto (pc' := 127) kc_50_115 rfl ?_
          refine xi_ireturn kc_50_127 mr_50 rfl ?_
          have zcm9 : ((-9) : Int32).toInt = (-9) := by decide
          exact kk (-9) h K
        · refine xi_ift (pc' := 118) kc_50_110 rfl (xc_ne_t (X := x2.toInt) (Y := 0) rfl (by decide) (by omega)) ?_
          refine xi_iload_n (pc' := 119) (x := x1) kc_50_118 rfl rfl ?_
          by_cases c199 : x1.toInt = 0
          · refine xi_iff (pc' := 122) kc_50_119 rfl (xc_ne_f (X := x1.toInt) (Y := 0) rfl (by decide) (by omega)) ?_
            refine xi_iload_n (pc' := 123) (x := x2) kc_50_122 rfl rfl ?_
            refine xi_goto (pc' := 127) kc_50_123 rfl ?_
            refine xi_ireturn kc_50_127 mr_50 rfl ?_
            exact kk x2 h K
          · refine xi_ift (pc' := 126) kc_50_119 rfl (xc_ne_t (X := x1.toInt) (Y := 0) rfl (by decide) (by omega)) ?_
            refine xi_iload_n (pc' := 127) (x := x3) kc_50_126 rfl rfl ?_
            refine xi_ireturn kc_50_127 mr_50 rfl ?_
            exact kk x3 h K
      · refine xi_cmf (pc' := 42) kc_50_39 rfl (xc_ge_f (X := x4.toInt) (Y := v196.toInt) rfl rfl (by omega)) ?_
        refine xi_aload_n (pc' := 43) (x := 115) kc_50_42 rfl rfl ?_
        refine xi_getfield (pc' := 46) (v := .ref 149) kc_50_43 rfl rfl rfl A14 rfl ?_
        refine xi_iload (pc' := 48) (x := x4) kc_50_46 rfl rfl ?_
        obtain ⟨y200, A200, hy200⟩ := xk_larr K.1 xD_149
        refine xcps2 (α := Int64) (y200.getD (Int32.toNatClampNeg x4) 0) (fun v201 ev201 => ?_)
        refine xi_laload (pc' := 49) (v := v201) kc_50_48 rfl A200 rfl (xi_in (by omega) (by rw [hy200]; omega)) ev201 ?_
        refine xi_lconst (pc' := 50) (v := 0) kc_50_49 rfl rfl ?_
        refine xcps2 (α := Int32) (lg_cmp v201 0) (fun v202 ev202 => ?_)
        have rv202 := xc_rng v202
        refine xi_lcmp (pc' := 51) (v := v202) kc_50_50 rfl ev202 ?_
        by_cases c203 : v202.toInt = 0
        · refine xi_iff (pc' := 54) kc_50_51 rfl (xc_ne_f (X := v202.toInt) (Y := 0) rfl (by decide) (by omega)) ?_
          refine xi_iload (pc' := 56) (x := x4) kc_50_54 rfl rfl ?_
          refine xi_static (mj := 49) (as := [.int x4]) (st1 := []) (lv0 := [(0, .int x4)]) kc_50_56 rfl rfl (Nat.le_of_ble_eq_true rfl) rfl rfl (Nat.le_of_ble_eq_true rfl) (hJ _ _ _ _ (by decide)) (xm_le ml_49 rfl) rfl ?_
          refine mt_49_0 hJ hov1 hov2 (d := d + 5) (x0 := x4) K.1 (fun r204 hh205 K206 => ?_)
          have br204 := xc_rng r204
          have K207 := xk_tr K K206 rfl
          refine xp_115 K207.1 (fun u208 u209 u210 u211 u212 u213 u214 u215 u216 u217 u218 u219 u220 bu208 bu209 bu210 bu211 bu212 bu213 bu214 bu215 bu216 bu217 bu218 bu219 bu220 A221 => ?_)
          have e222 : u2 = u209 := xk_eqi (q := 1) K206 rfl A14 A221 rfl rfl
          subst e222
          have e223 : u5 = u212 := xk_eqi (q := 23) K206 rfl A14 A221 rfl rfl
          subst e223
          show xw J ov (d + 7) 50 (59, [(0, .ref 115), (1, .int x1), (2, .int x2), (3, .int x3), (4, .int x4)], [.int r204], hh205) _
          refine xi_iload_n (pc' := 60) (x := x3) kc_50_59 rfl rfl ?_
          by_cases c224 : x3.toInt ≤ r204.toInt
          · refine xi_cmt (pc' := 67) kc_50_60 rfl (xc_ge_t (X := r204.toInt) (Y := x3.toInt) rfl rfl (by omega)) ?_
            refine xi_iload (pc' := 69) (x := x4) kc_50_67 rfl rfl ?_
            refine xi_static (mj := 49) (as := [.int x4]) (st1 := []) (lv0 := [(0, .int x4)]) kc_50_69 rfl rfl (Nat.le_of_ble_eq_true rfl) rfl rfl (Nat.le_of_ble_eq_true rfl) (hJ _ _ _ _ (by decide)) (xm_le ml_49 rfl) rfl ?_
            refine mt_49_0 hJ hov1 hov2 (d := d + 5) (x0 := x4) K207.1 (fun r225 hh226 K227 => ?_)
            have br225 := xc_rng r225
            have K228 := xk_tr K207 K227 rfl
            refine xp_115 K228.1 (fun u229 u230 u231 u232 u233 u234 u235 u236 u237 u238 u239 u240 u241 bu229 bu230 bu231 bu232 bu233 bu234 bu235 bu236 bu237 bu238 bu239 bu240 bu241 A242 => ?_)
            have e243 : u2 = u230 := xk_eqi (q := 1) K227 rfl A221 A242 rfl rfl
            subst e243
            have e244 : u5 = u233 := xk_eqi (q := 23) K227 rfl A221 A242 rfl rfl
            subst e244
            show xw J ov (d + 7) 50 (72, [(0, .ref 115), (1, .int x1), (2, .int x2), (3, .int x3), (4, .int x4)], [.int r225], hh226) _
            refine xi_iload_n (pc' := 73) (x := x3) kc_50_72 rfl rfl ?_
            by_cases c245 : r225.toInt = x3.toInt
            · refine xi_cmf (pc' := 76) kc_50_73 rfl (xc_ne_f (X := r225.toInt) (Y := x3.toInt) rfl rfl (by omega)) ?_
              refine xi_iload_n (pc' := 77) (x := x2) kc_50_76 rfl rfl ?_
              refine xi_iconst (pc' := 78) (v := 1) kc_50_77 rfl rfl ?_
              refine xcps2 (α := Int32) ((x2 : Int32) + 1) (fun v246 ev246 => ?_)
              have rv246 := xc_rng v246
              refine xi_iadd (pc' := 79) (v := v246) kc_50_78 rfl ev246 ?_
              refine xi_goto (pc' := 83) kc_50_79 rfl ?_
              refine xi_istore_n (pc' := 84) (lv' := [(2, .int v246), (0, .ref 115), (1, .int x1), (3, .int x3), (4, .int x4)]) kc_50_83 rfl rfl (xm_lt ml_50 rfl) ?_
              refine xi_iload (pc' := 86) (x := x4) kc_50_84 rfl rfl ?_
              refine xi_static (mj := 49) (as := [.int x4]) (st1 := []) (lv0 := [(0, .int x4)]) kc_50_86 rfl rfl (Nat.le_of_ble_eq_true rfl) rfl rfl (Nat.le_of_ble_eq_true rfl) (hJ _ _ _ _ (by decide)) (xm_le ml_49 rfl) rfl ?_
              refine mt_49_0 hJ hov1 hov2 (d := d + 5) (x0 := x4) K228.1 (fun r247 hh248 K249 => ?_)
              have br247 := xc_rng r247
              have K250 := xk_tr K228 K249 rfl
              refine xp_115 K250.1 (fun u251 u252 u253 u254 u255 u256 u257 u258 u259 u260 u261 u262 u263 bu251 bu252 bu253 bu254 bu255 bu256 bu257 bu258 bu259 bu260 bu261 bu262 bu263 A264 => ?_)
              have e265 : u2 = u252 := xk_eqi (q := 1) K249 rfl A242 A264 rfl rfl
              subst e265
              have e266 : u5 = u255 := xk_eqi (q := 23) K249 rfl A242 A264 rfl rfl
              subst e266
              show xw J ov (d + 7) 50 (89, [(2, .int v246), (0, .ref 115), (1, .int x1), (3, .int x3), (4, .int x4)], [.int r247], hh248) _
              refine xi_iload_n (pc' := 90) (x := x3) kc_50_89 rfl rfl ?_
              by_cases c267 : x3.toInt ≤ r247.toInt
              · refine xi_cmt (pc' := 101) kc_50_90 rfl (xc_ge_t (X := r247.toInt) (Y := x3.toInt) rfl rfl (by omega)) ?_
                refine xi_iload_n (pc' := 102) (x := x3) kc_50_101 rfl rfl ?_
                refine xi_istore_n (pc' := 103) (lv' := [(3, .int x3), (2, .int v246), (0, .ref 115), (1, .int x1), (4, .int x4)]) kc_50_102 rfl rfl (xm_lt ml_50 rfl) ?_
                refine xcps2 (α := Int32) (x4 + 1) (fun v268 ev268 => ?_)
                have zv268 : v268.toInt = (x4.toInt + 1) := by rw [← ev268]; exact (xz_add (X := x4.toInt) (Y := 1) rfl (by decide) (by omega) (by omega)).trans (by omega)
                refine xi_iinc (pc' := 106) (x := x4) (v := v268) (lv' := [(4, .int v268), (3, .int x3), (2, .int v246), (0, .ref 115), (1, .int x1)]) kc_50_103 rfl rfl ev268 rfl (xm_lt ml_50 rfl) ?_
                refine xi_goto (pc' := 33) kc_50_106 rfl ?_
                refine xw_lv (b := [(0, .ref 115), (1, .int x1), (2, .int v246), (3, .int x3), (4, .int v268)]) (lvS_cons (lvS_cons (lvS_cons (lvS_cons (lvS_cons (lvS_nil (show ([4, 3, 2, 0, 1] : List Nat).Nodup by decide)) rfl) rfl) rfl) rfl) rfl) ?_
                exact i0 x1 v246 x3 v268 hh248 (by omega) (by omega) K250 (by omega)
              · refine xi_cmf (pc' := 93) kc_50_90 rfl (xc_ge_f (X := r247.toInt) (Y := x3.toInt) rfl rfl (by omega)) ?_
                refine xi_iload (pc' := 95) (x := x4) kc_50_93 rfl rfl ?_
                refine xi_static (mj := 49) (as := [.int x4]) (st1 := []) (lv0 := [(0, .int x4)]) kc_50_95 rfl rfl (Nat.le_of_ble_eq_true rfl) rfl rfl (Nat.le_of_ble_eq_true rfl) (hJ _ _ _ _ (by decide)) (xm_le ml_49 rfl) rfl ?_
                refine mt_49_0 hJ hov1 hov2 (d := d + 5) (x0 := x4) K250.1 (fun r269 hh270 K271 => ?_)
                have br269 := xc_rng r269
                have K272 := xk_tr K250 K271 rfl
                refine xp_115 K272.1 (fun u273 u274 u275 u276 u277 u278 u279 u280 u281 u282 u283 u284 u285 bu273 bu274 bu275 bu276 bu277 bu278 bu279 bu280 bu281 bu282 bu283 bu284 bu285 A286 => ?_)
                have e287 : u2 = u274 := xk_eqi (q := 1) K271 rfl A264 A286 rfl rfl
                subst e287
                have e288 : u5 = u277 := xk_eqi (q := 23) K271 rfl A264 A286 rfl rfl
                subst e288
                show xw J ov (d + 7) 50 (98, [(2, .int v246), (0, .ref 115), (1, .int x1), (3, .int x3), (4, .int x4)], [.int r269], hh270) _
                refine xi_goto (pc' := 102) kc_50_98 rfl ?_
                refine xi_istore_n (pc' := 103) (lv' := [(3, .int r269), (2, .int v246), (0, .ref 115), (1, .int x1), (4, .int x4)]) kc_50_102 rfl rfl (xm_lt ml_50 rfl) ?_
                refine xcps2 (α := Int32) (x4 + 1) (fun v289 ev289 => ?_)
                have zv289 : v289.toInt = (x4.toInt + 1) := by rw [← ev289]; exact (xz_add (X := x4.toInt) (Y := 1) rfl (by decide) (by omega) (by omega)).trans (by omega)
                refine xi_iinc (pc' := 106) (x := x4) (v := v289) (lv' := [(4, .int v289), (3, .int r269), (2, .int v246), (0, .ref 115), (1, .int x1)]) kc_50_103 rfl rfl ev289 rfl (xm_lt ml_50 rfl) ?_
                refine xi_goto (pc' := 33) kc_50_106 rfl ?_
                refine xw_lv (b := [(0, .ref 115), (1, .int x1), (2, .int v246), (3, .int r269), (4, .int v289)]) (lvS_cons (lvS_cons (lvS_cons (lvS_cons (lvS_cons (lvS_nil (show ([4, 3, 2, 0, 1] : List Nat).Nodup by decide)) rfl) rfl) rfl) rfl) rfl) ?_
                exact i0 x1 v246 r269 v289 hh270 (by omega) (by omega) K272 (by omega)
            · refine xi_cmt (pc' := 82) kc_50_73 rfl (xc_ne_t (X := r225.toInt) (Y := x3.toInt) rfl rfl (by omega)) ?_
              refine xi_iload_n (pc' := 83) (x := x2) kc_50_82 rfl rfl ?_
              refine xi_istore_n (pc' := 84) (lv' := [(2, .int x2), (0, .ref 115), (1, .int x1), (3, .int x3), (4, .int x4)]) kc_50_83 rfl rfl (xm_lt ml_50 rfl) ?_
              refine xi_iload (pc' := 86) (x := x4) kc_50_84 rfl rfl ?_
              refine xi_static (mj := 49) (as := [.int x4]) (st1 := []) (lv0 := [(0, .int x4)]) kc_50_86 rfl rfl (Nat.le_of_ble_eq_true rfl) rfl rfl (Nat.le_of_ble_eq_true rfl) (hJ _ _ _ _ (by decide)) (xm_le ml_49 rfl) rfl ?_
              refine mt_49_0 hJ hov1 hov2 (d := d + 5) (x0 := x4) K228.1 (fun r290 hh291 K292 => ?_)
              have br290 := xc_rng r290
              have K293 := xk_tr K228 K292 rfl
              refine xp_115 K293.1 (fun u294 u295 u296 u297 u298 u299 u300 u301 u302 u303 u304 u305 u306 bu294 bu295 bu296 bu297 bu298 bu299 bu300 bu301 bu302 bu303 bu304 bu305 bu306 A307 => ?_)
              have e308 : u2 = u295 := xk_eqi (q := 1) K292 rfl A242 A307 rfl rfl
              subst e308
              have e309 : u5 = u298 := xk_eqi (q := 23) K292 rfl A242 A307 rfl rfl
              subst e309
              show xw J ov (d + 7) 50 (89, [(2, .int x2), (0, .ref 115), (1, .int x1), (3, .int x3), (4, .int x4)], [.int r290], hh291) _
              refine xi_iload_n (pc' := 90) (x := x3) kc_50_89 rfl rfl ?_
              by_cases c310 : x3.toInt ≤ r290.toInt
              · refine xi_cmt (pc' := 101) kc_50_90 rfl (xc_ge_t (X := r290.toInt) (Y := x3.toInt) rfl rfl (by omega)) ?_
                refine xi_iload_n (pc' := 102) (x := x3) kc_50_101 rfl rfl ?_
                refine xi_istore_n (pc' := 103) (lv' := [(3, .int x3), (2, .int x2), (0, .ref 115), (1, .int x1), (4, .int x4)]) kc_50_102 rfl rfl (xm_lt ml_50 rfl) ?_
                refine xcps2 (α := Int32) (x4 + 1) (fun v311 ev311 => ?_)
                have zv311 : v311.toInt = (x4.toInt + 1) := by rw [← ev311]; exact (xz_add (X := x4.toInt) (Y := 1) rfl (by decide) (by omega) (by omega)).trans (by omega)
                refine xi_iinc (pc' := 106) (x := x4) (v := v311) (lv' := [(4, .int v311), (3, .int x3), (2, .int x2), (0, .ref 115), (1, .int x1)]) kc_50_103 rfl rfl ev311 rfl (xm_lt ml_50 rfl) ?_
                refine xi_goto (pc' := 33) kc_50_106 rfl ?_
                refine xw_lv (b := [(0, .ref 115), (1, .int x1), (2, .int x2), (3, .int x3), (4, .int v311)]) (lvS_cons (lvS_cons (lvS_cons (lvS_cons (lvS_cons (lvS_nil (show ([4, 3, 2, 0, 1] : List Nat).Nodup by decide)) rfl) rfl) rfl) rfl) rfl) ?_
                exact i0 x1 x2 x3 v311 hh291 (by omega) (by omega) K293 (by omega)
              · refine xi_cmf (pc' := 93) kc_50_90 rfl (xc_ge_f (X := r290.toInt) (Y := x3.toInt) rfl rfl (by omega)) ?_
                refine xi_iload (pc' := 95) (x := x4) kc_50_93 rfl rfl ?_
                refine xi_static (mj := 49) (as := [.int x4]) (st1 := []) (lv0 := [(0, .int x4)]) kc_50_95 rfl rfl (Nat.le_of_ble_eq_true rfl) rfl rfl (Nat.le_of_ble_eq_true rfl) (hJ _ _ _ _ (by decide)) (xm_le ml_49 rfl) rfl ?_
                refine mt_49_0 hJ hov1 hov2 (d := d + 5) (x0 := x4) K293.1 (fun r312 hh313 K314 => ?_)
                have br312 := xc_rng r312
                have K315 := xk_tr K293 K314 rfl
                refine xp_115 K315.1 (fun u316 u317 u318 u319 u320 u321 u322 u323 u324 u325 u326 u327 u328 bu316 bu317 bu318 bu319 bu320 bu321 bu322 bu323 bu324 bu325 bu326 bu327 bu328 A329 => ?_)
                have e330 : u2 = u317 := xk_eqi (q := 1) K314 rfl A307 A329 rfl rfl
                subst e330
                have e331 : u5 = u320 := xk_eqi (q := 23) K314 rfl A307 A329 rfl rfl
                subst e331
                show xw J ov (d + 7) 50 (98, [(2, .int x2), (0, .ref 115), (1, .int x1), (3, .int x3), (4, .int x4)], [.int r312], hh313) _
                refine xi_goto (pc' := 102) kc_50_98 rfl ?_
                refine xi_istore_n (pc' := 103) (lv' := [(3, .int r312), (2, .int x2), (0, .ref 115), (1, .int x1), (4, .int x4)]) kc_50_102 rfl rfl (xm_lt ml_50 rfl) ?_
                refine xcps2 (α := Int32) (x4 + 1) (fun v332 ev332 => ?_)
                have zv332 : v332.toInt = (x4.toInt + 1) := by rw [← ev332]; exact (xz_add (X := x4.toInt) (Y := 1) rfl (by decide) (by omega) (by omega)).trans (by omega)
                refine xi_iinc (pc' := 106) (x := x4) (v := v332) (lv' := [(4, .int v332), (3, .int r312), (2, .int x2), (0, .ref 115), (1, .int x1)]) kc_50_103 rfl rfl ev332 rfl (xm_lt ml_50 rfl) ?_
                refine xi_goto (pc' := 33) kc_50_106 rfl ?_
                refine xw_lv (b := [(0, .ref 115), (1, .int x1), (2, .int x2), (3, .int r312), (4, .int v332)]) (lvS_cons (lvS_cons (lvS_cons (lvS_cons (lvS_cons (lvS_nil (show ([4, 3, 2, 0, 1] : List Nat).Nodup by decide)) rfl) rfl) rfl) rfl) rfl) ?_
                exact i0 x1 x2 r312 v332 hh313 (by omega) (by omega) K315 (by omega)
          · refine xi_cmf (pc' := 63) kc_50_60 rfl (xc_ge_f (X := r204.toInt) (Y := x3.toInt) rfl rfl (by omega)) ?_
            refine xi_iconst (pc' := 64) (v := 1) kc_50_63 rfl rfl ?_
            refine xi_goto (pc' := 83) kc_50_64 rfl ?_
            refine xi_istore_n (pc' := 84) (lv' := [(2, .int 1), (0, .ref 115), (1, .int x1), (3, .int x3), (4, .int x4)]) kc_50_83 rfl rfl (xm_lt ml_50 rfl) ?_
            refine xi_iload (pc' := 86) (x := x4) kc_50_84 rfl rfl ?_
            refine xi_static (mj := 49) (as := [.int x4]) (st1 := []) (lv0 := [(0, .int x4)]) kc_50_86 rfl rfl (Nat.le_of_ble_eq_true rfl) rfl rfl (Nat.le_of_ble_eq_true rfl) (hJ _ _ _ _ (by decide)) (xm_le ml_49 rfl) rfl ?_
            refine mt_49_0 hJ hov1 hov2 (d := d + 5) (x0 := x4) K207.1 (fun r333 hh334 K335 => ?_)
            have br333 := xc_rng r333
            have K336 := xk_tr K207 K335 rfl
            refine xp_115 K336.1 (fun u337 u338 u339 u340 u341 u342 u343 u344 u345 u346 u347 u348 u349 bu337 bu338 bu339 bu340 bu341 bu342 bu343 bu344 bu345 bu346 bu347 bu348 bu349 A350 => ?_)
            have e351 : u2 = u338 := xk_eqi (q := 1) K335 rfl A221 A350 rfl rfl
            subst e351
            have e352 : u5 = u341 := xk_eqi (q := 23) K335 rfl A221 A350 rfl rfl
            subst e352
            show xw J ov (d + 7) 50 (89, [(2, .int 1), (0, .ref 115), (1, .int x1), (3, .int x3), (4, .int x4)], [.int r333], hh334) _
            refine xi_iload_n (pc' := 90) (x := x3) kc_50_89 rfl rfl ?_
            by_cases c353 : x3.toInt ≤ r333.toInt
            · refine xi_cmt (pc' := 101) kc_50_90 rfl (xc_ge_t (X := r333.toInt) (Y := x3.toInt) rfl rfl (by omega)) ?_
              refine xi_iload_n (pc' := 102) (x := x3) kc_50_101 rfl rfl ?_
              refine xi_istore_n (pc' := 103) (lv' := [(3, .int x3), (2, .int 1), (0, .ref 115), (1, .int x1), (4, .int x4)]) kc_50_102 rfl rfl (xm_lt ml_50 rfl) ?_
              refine xcps2 (α := Int32) (x4 + 1) (fun v354 ev354 => ?_)
              have zv354 : v354.toInt = (x4.toInt + 1) := by rw [← ev354]; exact (xz_add (X := x4.toInt) (Y := 1) rfl (by decide) (by omega) (by omega)).trans (by omega)
              refine xi_iinc (pc' := 106) (x := x4) (v := v354) (lv' := [(4, .int v354), (3, .int x3), (2, .int 1), (0, .ref 115), (1, .int x1)]) kc_50_103 rfl rfl ev354 rfl (xm_lt ml_50 rfl) ?_
              refine xi_goto (pc' := 33) kc_50_106 rfl ?_
              have zc1 : (1 : Int32).toInt = 1 := by decide
              refine xw_lv (b := [(0, .ref 115), (1, .int x1), (2, .int 1), (3, .int x3), (4, .int v354)]) (lvS_cons (lvS_cons (lvS_cons (lvS_cons (lvS_cons (lvS_nil (show ([4, 3, 2, 0, 1] : List Nat).Nodup by decide)) rfl) rfl) rfl) rfl) rfl) ?_
              exact i0 x1 1 x3 v354 hh334 (by omega) (by omega) K336 (by omega)
            · refine xi_cmf (pc' := 93) kc_50_90 rfl (xc_ge_f (X := r333.toInt) (Y := x3.toInt) rfl rfl (by omega)) ?_
              refine xi_iload (pc' := 95) (x := x4) kc_50_93 rfl rfl ?_
              refine xi_static (mj := 49) (as := [.int x4]) (st1 := []) (lv0 := [(0, .int x4)]) kc_50_95 rfl rfl (Nat.le_of_ble_eq_true rfl) rfl rfl (Nat.le_of_ble_eq_true rfl) (hJ _ _ _ _ (by decide)) (xm_le ml_49 rfl) rfl ?_
              refine mt_49_0 hJ hov1 hov2 (d := d + 5) (x0 := x4) K336.1 (fun r355 hh356 K357 => ?_)
              have br355 := xc_rng r355
              have K358 := xk_tr K336 K357 rfl
              refine xp_115 K358.1 (fun u359 u360 u361 u362 u363 u364 u365 u366 u367 u368 u369 u370 u371 bu359 bu360 bu361 bu362 bu363 bu364 bu365 bu366 bu367 bu368 bu369 bu370 bu371 A372 => ?_)
              have e373 : u2 = u360 := xk_eqi (q := 1) K357 rfl A350 A372 rfl rfl
              subst e373
              have e374 : u5 = u363 := xk_eqi (q := 23) K357 rfl A350 A372 rfl rfl
              subst e374
              show xw J ov (d + 7) 50 (98, [(2, .int 1), (0, .ref 115), (1, .int x1), (3, .int x3), (4, .int x4)], [.int r355], hh356) _
              refine xi_goto (pc' := 102) kc_50_98 rfl ?_
              refine xi_istore_n (pc' := 103) (lv' := [(3, .int r355), (2, .int 1), (0, .ref 115), (1, .int x1), (4, .int x4)]) kc_50_102 rfl rfl (xm_lt ml_50 rfl) ?_
              refine xcps2 (α := Int32) (x4 + 1) (fun v375 ev375 => ?_)
              have zv375 : v375.toInt = (x4.toInt + 1) := by rw [← ev375]; exact (xz_add (X := x4.toInt) (Y := 1) rfl (by decide) (by omega) (by omega)).trans (by omega)
              refine xi_iinc (pc' := 106) (x := x4) (v := v375) (lv' := [(4, .int v375), (3, .int r355), (2, .int 1), (0, .ref 115), (1, .int x1)]) kc_50_103 rfl rfl ev375 rfl (xm_lt ml_50 rfl) ?_
              refine xi_goto (pc' := 33) kc_50_106 rfl ?_
              have zc1 : (1 : Int32).toInt = 1 := by decide
              refine xw_lv (b := [(0, .ref 115), (1, .int x1), (2, .int 1), (3, .int r355), (4, .int v375)]) (lvS_cons (lvS_cons (lvS_cons (lvS_cons (lvS_cons (lvS_nil (show ([4, 3, 2, 0, 1] : List Nat).Nodup by decide)) rfl) rfl) rfl) rfl) rfl) ?_
              exact i0 x1 1 r355 v375 hh356 (by omega) (by omega) K358 (by omega)
        · have zv201c203 : v201 ≠ 0 := xj_lc ev202 (by omega)
          refine xi_ift (pc' := 103) kc_50_51 rfl (xc_ne_t (X := v202.toInt) (Y := 0) rfl (by decide) (by omega)) ?_
          refine xcps2 (α := Int32) (x4 + 1) (fun v376 ev376 => ?_)
          have zv376 : v376.toInt = (x4.toInt + 1) := by rw [← ev376]; exact (xz_add (X := x4.toInt) (Y := 1) rfl (by decide) (by omega) (by omega)).trans (by omega)
          refine xi_iinc (pc' := 106) (x := x4) (v := v376) (lv' := [(4, .int v376), (0, .ref 115), (1, .int x1), (2, .int x2), (3, .int x3)]) kc_50_103 rfl rfl ev376 rfl (xm_lt ml_50 rfl) ?_
          refine xi_goto (pc' := 33) kc_50_106 rfl ?_
          refine xw_lv (b := [(0, .ref 115), (1, .int x1), (2, .int x2), (3, .int x3), (4, .int v376)]) (lvS_cons (lvS_cons (lvS_cons (lvS_cons (lvS_cons (lvS_nil (show ([4, 0, 1, 2, 3] : List Nat).Nodup by decide)) rfl) rfl) rfl) rfl) rfl) ?_
          exact i0 x1 x2 x3 v376 h (by omega) (by omega) K (by omega)
set_option maxHeartbeats 4000000 in
theorem mt_50_0 {J : xe_J} {ov : List (List Int32)} (hJ : ∀ d mj as h, mj ≠ xe_loff → J d mj as h = none) (hov1 : ov[1]? = some [10, 0, 0, 0, 0, 0]) (hov2 : ov[2]? = some [99, 30, 50, 50, 1, 99999]) {d : Nat} {Q : Option Value → xe_H → Prop} {h : xe_H} {x1 : Int32} (T : xt h) (kk : (∀ (r : Int32) (h' : xe_H), xk [(0, 9), (115, 1), (83, 0), (29, 0), (31, 0), (33, 0), (35, 0), (37, 0), (39, 0), (41, 0), (43, 0), (45, 0), (47, 0), (49, 0), (51, 0), (125, 0), (29, 2), (31, 2), (33, 2), (35, 2), (37, 2), (39, 2), (41, 2), (43, 2), (45, 2), (47, 2), (49, 2), (51, 2), (127, 0), (1, 5), (115, 23)] h h' → Q (some (.int r)) h')) : xw J ov (d + 7) 50 (0, [(0, .ref 115), (1, .int x1)], [], h) Q := by
  have K : xk [(0, 9), (115, 1), (83, 0), (29, 0), (31, 0), (33, 0), (35, 0), (37, 0), (39, 0), (41, 0), (43, 0), (45, 0), (47, 0), (49, 0), (51, 0), (125, 0), (29, 2), (31, 2), (33, 2), (35, 2), (37, 2), (39, 2), (41, 2), (43, 2), (45, 2), (47, 2), (49, 2), (51, 2), (127, 0), (1, 5), (115, 23)] h h := xk_re T
  have rx1 := xc_rng x1
  refine xi_aload_n (pc' := 1) (x := 115) kc_50_0 rfl rfl ?_
  refine xi_iconst (pc' := 2) (v := 0) kc_50_1 rfl rfl ?_
  refine xp_115 K.1 (fun u1 u2 u3 u4 u5 u6 u7 u8 u9 u10 u11 u12 u13 bu1 bu2 bu3 bu4 bu5 bu6 bu7 bu8 bu9 bu10 bu11 bu12 bu13 A14 => ?_)
  refine xi_putfield (pc' := 5) (fs' := [.int 0, .int u2, .ref 116, .ref 117, .ref 118, .ref 119, .ref 120, .ref 121, .ref 122, .ref 123, .ref 124, .ref 125, .ref 126, .ref 127, .ref 128, .ref 129, .int u3, .ref 130, .int u4, .ref 131, .ref 132, .ref 133, .ref 134, .int u5, .ref 135, .ref 136, .ref 137, .ref 138, .ref 139, .ref 140, .ref 141, .ref 142, .int u6, .int u7, .int u8, .ref 143, .ref 144, .ref 145, .ref 146, .ref 147, .ref 148, .int u9, .ref 149, .ref 150, .ref 151, .int u10, .ref 152, .ref 153, .ref 154, .ref 155, .ref 156, .ref 157, .ref 158, .ref 159, .int u11, .ref 160, .int u12, .ref 161, .ref 162, .ref 163, .ref 164, .int u13, .ref 165, .ref 166]) kc_50_2 rfl rfl rfl A14 rfl rfl rfl (Nat.le_of_ble_eq_true rfl) rfl (fun hh16 eh15 => ?_)
  have K17 := xk_pf (k := 0) (v := 0) K (xk_wf rfl) xD_115 A14 rfl (by first | omega | decide) (by first | omega | decide) eh15 rfl
  refine xi_iload_n (pc' := 6) (x := x1) kc_50_5 rfl rfl ?_
  refine xi_iconst (pc' := 7) (v := 0) kc_50_6 rfl rfl ?_
  refine xi_iconst (pc' := 8) (v := 1) kc_50_7 rfl rfl ?_
  refine xi_static (mj := 11) (as := [.int x1, .int 0, .int 1]) (st1 := []) (lv0 := [(0, .int x1), (1, .int 0), (2, .int 1)]) kc_50_8 rfl rfl (Nat.le_of_ble_eq_true rfl) rfl rfl (Nat.le_of_ble_eq_true rfl) (hJ _ _ _ _ (by decide)) (xm_le ml_11 rfl) rfl ?_
  refine xi_iload_n (pc' := 1) (x := x1) kc_11_0 rfl rfl ?_
  refine xi_iload_n (pc' := 2) (x := 0) kc_11_1 rfl rfl ?_
  by_cases c18 : x1.toInt < 0
  · refine xi_cmt (pc' := 14) kc_11_2 rfl (xc_lt_t (X := x1.toInt) (Y := 0) rfl (by decide) (by omega)) ?_
    refine xi_iconst (pc' := 15) (v := 0) kc_11_14 rfl rfl ?_
    refine xi_ireturn kc_11_15 mr_11 rfl ?_
    show xw J ov (d + 7) 50 (11, [(0, .ref 115), (1, .int x1)], [.int 0], hh16) _
    refine xi_iff (pc' := 14) kc_50_11 rfl rfl ?_
    refine xi_aload_n (pc' := 15) (x := 115) kc_50_14 rfl rfl ?_
    refine xi_bipush (pc' := 17) (v := (-2)) kc_50_15 rfl rfl ?_
    refine xi_virtual (mj := 12) (as := [.int (-2)]) (st1 := []) (lv0 := [(0, .ref 115), (1, .int (-2))]) kc_50_17 rfl rfl rfl rfl rfl eh15.1 (Nat.le_of_ble_eq_true rfl) (hJ _ _ _ _ (by decide)) (xm_le ml_12 rfl) rfl ?_
    refine xi_aload_n (pc' := 1) (x := 115) kc_12_0 rfl rfl ?_
    refine xi_getfield (pc' := 4) (v := .ref 140) kc_12_1 rfl rfl rfl eh15.1 rfl ?_
    refine xi_iload_n (pc' := 5) (x := (-2)) kc_12_4 rfl rfl ?_
    refine xi_ineg (pc' := 6) (v := 2) kc_12_5 rfl rfl ?_
    refine xi_dup2 (pc' := 7) kc_12_6 rfl ⟨rfl, rfl⟩ ?_
    refine xcps4 (xk_arr K17.1 xD_140) (fun y19 A19 hy19 ry19 => ?_)
    refine xcps4 (xj_get hy19 ry19 (i := 2) (by decide) (by decide)) (fun v20 ev20 bv20 dv20 => ?_)
    refine xi_iaload (pc' := 8) (v := v20) kc_12_7 rfl A19 (by decide) rfl (xi_in (by decide) (by rw [hy19]; decide)) ev20 ?_
    refine xi_iconst (pc' := 9) (v := 1) kc_12_8 rfl rfl ?_
    refine xcps2 (α := Int32) ((v20 : Int32) + 1) (fun v21 ev21 => ?_)
    have rv21 := xc_rng v21
    refine xi_iadd (pc' := 10) (v := v21) kc_12_9 rfl ev21 ?_
    refine xcps4 (xj_set (v := v21) hy19 ry19 2 (by first | omega | decide) (by first | omega | decide)) (fun y22 s22 hy22 ry22 => ?_)
    refine xi_iastore (pc' := 11) (x' := y22) kc_12_10 rfl A19 rfl (xi_in (by decide) (by rw [hy19]; decide)) s22 (fun hh22 eh22 => ?_)
    have K23 := xk_pa K17 (xk_wa rfl) xD_140 hy22 ry22 eh22
    refine xi_iload_n (pc' := 12) (x := (-2)) kc_12_11 rfl rfl ?_
    refine xi_ireturn kc_12_12 mr_12 rfl ?_
    show xw J ov (d + 7) 50 (20, [(0, .ref 115), (1, .int x1)], [.int (-2)], hh22) _
    refine xi_ireturn kc_50_20 mr_50 rfl ?_
    have zcm2 : ((-2) : Int32).toInt = (-2) := by decide
    exact kk (-2) hh22 K23
  · refine xi_cmf (pc' := 5) kc_11_2 rfl (xc_lt_f (X := x1.toInt) (Y := 0) rfl (by decide) (by omega)) ?_
    refine xi_iload_n (pc' := 6) (x := x1) kc_11_5 rfl rfl ?_
    refine xi_iload_n (pc' := 7) (x := 1) kc_11_6 rfl rfl ?_
    by_cases c24 : 1 < x1.toInt
    · refine xi_cmt (pc' := 14) kc_11_7 rfl (xc_gt_t (X := x1.toInt) (Y := 1) rfl (by decide) (by omega)) ?_
      refine xi_iconst (pc' := 15) (v := 0) kc_11_14 rfl rfl ?_
      refine xi_ireturn kc_11_15 mr_11 rfl ?_
      show xw J ov (d + 7) 50 (11, [(0, .ref 115), (1, .int x1)], [.int 0], hh16) _
      refine xi_iff (pc' := 14) kc_50_11 rfl rfl ?_
      refine xi_aload_n (pc' := 15) (x := 115) kc_50_14 rfl rfl ?_
      refine xi_bipush (pc' := 17) (v := (-2)) kc_50_15 rfl rfl ?_
      refine xi_virtual (mj := 12) (as := [.int (-2)]) (st1 := []) (lv0 := [(0, .ref 115), (1, .int (-2))]) kc_50_17 rfl rfl rfl rfl rfl eh15.1 (Nat.le_of_ble_eq_true rfl) (hJ _ _ _ _ (by decide)) (xm_le ml_12 rfl) rfl ?_
      refine xi_aload_n (pc' := 1) (x := 115) kc_12_0 rfl rfl ?_
      refine xi_getfield (pc' := 4) (v := .ref 140) kc_12_1 rfl rfl rfl eh15.1 rfl ?_
      refine xi_iload_n (pc' := 5) (x := (-2)) kc_12_4 rfl rfl ?_
      refine xi_ineg (pc' := 6) (v := 2) kc_12_5 rfl rfl ?_
      refine xi_dup2 (pc' := 7) kc_12_6 rfl ⟨rfl, rfl⟩ ?_
      refine xcps4 (xk_arr K17.1 xD_140) (fun y25 A25 hy25 ry25 => ?_)
      refine xcps4 (xj_get hy25 ry25 (i := 2) (by decide) (by decide)) (fun v26 ev26 bv26 dv26 => ?_)
      refine xi_iaload (pc' := 8) (v := v26) kc_12_7 rfl A25 (by decide) rfl (xi_in (by decide) (by rw [hy25]; decide)) ev26 ?_
      refine xi_iconst (pc' := 9) (v := 1) kc_12_8 rfl rfl ?_
      refine xcps2 (α := Int32) ((v26 : Int32) + 1) (fun v27 ev27 => ?_)
      have rv27 := xc_rng v27
      refine xi_iadd (pc' := 10) (v := v27) kc_12_9 rfl ev27 ?_
      refine xcps4 (xj_set (v := v27) hy25 ry25 2 (by first | omega | decide) (by first | omega | decide)) (fun y28 s28 hy28 ry28 => ?_)
      refine xi_iastore (pc' := 11) (x' := y28) kc_12_10 rfl A25 rfl (xi_in (by decide) (by rw [hy25]; decide)) s28 (fun hh28 eh28 => ?_)
      have K29 := xk_pa K17 (xk_wa rfl) xD_140 hy28 ry28 eh28
      refine xi_iload_n (pc' := 12) (x := (-2)) kc_12_11 rfl rfl ?_
      refine xi_ireturn kc_12_12 mr_12 rfl ?_
      show xw J ov (d + 7) 50 (20, [(0, .ref 115), (1, .int x1)], [.int (-2)], hh28) _
      refine xi_ireturn kc_50_20 mr_50 rfl ?_
      have zcm2 : ((-2) : Int32).toInt = (-2) := by decide
      exact kk (-2) hh28 K29
    · refine xi_cmf (pc' := 10) kc_11_7 rfl (xc_gt_f (X := x1.toInt) (Y := 1) rfl (by decide) (by omega)) ?_
      refine xi_iconst (pc' := 11) (v := 1) kc_11_10 rfl rfl ?_
      refine xi_goto (pc' := 15) kc_11_11 rfl ?_
      refine xi_ireturn kc_11_15 mr_11 rfl ?_
      show xw J ov (d + 7) 50 (11, [(0, .ref 115), (1, .int x1)], [.int 1], hh16) _
      refine xi_ift (pc' := 21) kc_50_11 rfl rfl ?_
      refine xi_aload_n (pc' := 22) (x := 115) kc_50_21 rfl rfl ?_
      refine xi_virtual (mj := 43) (as := []) (st1 := []) (lv0 := [(0, .ref 115)]) kc_50_22 rfl rfl rfl rfl rfl eh15.1 (Nat.le_of_ble_eq_true rfl) (hJ _ _ _ _ (by decide)) (xm_le ml_43 rfl) rfl ?_
      refine mt_43_0 hJ hov1 hov2 (d := d)  K17.1 (fun hh31 K32 => ?_)
      have K33 := xk_tr K17 K32 rfl
      refine xp_115 K33.1 (fun u34 u35 u36 u37 u38 u39 u40 u41 u42 u43 u44 u45 u46 bu34 bu35 bu36 bu37 bu38 bu39 bu40 bu41 bu42 bu43 bu44 bu45 bu46 A47 => ?_)
      have e48 : u2 = u35 := xk_eqi (q := 1) K32 rfl eh15.1 A47 rfl rfl
      subst e48
      have e49 : u5 = u38 := xk_eqi (q := 23) K32 rfl eh15.1 A47 rfl rfl
      subst e49
      show xw J ov (d + 7) 50 (25, [(0, .ref 115), (1, .int x1)], [], hh31) _
      refine xi_iconst (pc' := 26) (v := 0) kc_50_25 rfl rfl ?_
      refine xi_istore_n (pc' := 27) (lv' := [(2, .int 0), (0, .ref 115), (1, .int x1)]) kc_50_26 rfl rfl (xm_lt ml_50 rfl) ?_
      refine xi_bipush (pc' := 29) (v := 99) kc_50_27 rfl rfl ?_
      refine xi_istore_n (pc' := 30) (lv' := [(3, .int 99), (2, .int 0), (0, .ref 115), (1, .int x1)]) kc_50_29 rfl rfl (xm_lt ml_50 rfl) ?_
      refine xi_iconst (pc' := 31) (v := 0) kc_50_30 rfl rfl ?_
      refine xi_istore (pc' := 33) (lv' := [(4, .int 0), (3, .int 99), (2, .int 0), (0, .ref 115), (1, .int x1)]) kc_50_31 rfl rfl (xm_lt ml_50 rfl) ?_
      have zc0 : (0 : Int32).toInt = 0 := by decide
      have zc99 : (99 : Int32).toInt = 99 := by decide
      refine xw_lv (b := [(0, .ref 115), (1, .int x1), (2, .int 0), (3, .int 99), (4, .int 0)]) (lvS_cons (lvS_cons (lvS_cons (lvS_cons (lvS_cons (lvS_nil (show ([4, 3, 2, 0, 1] : List Nat).Nodup by decide)) rfl) rfl) rfl) rfl) rfl) ?_
      exact (lp_50_0 hJ hov1 hov2 (d := d) (hb := hh31) (fun r9 h9 K9 => kk r9 h9 (xk_tr K33 K9 rfl)) 65) x1 0 99 0 hh31 (by omega) (by omega) (xk_re K33.1) (by omega)
set_option maxHeartbeats 4000000 in
theorem lp_53_0 {J : xe_J} {ov : List (List Int32)} (hJ : ∀ d mj as h, mj ≠ xe_loff → J d mj as h = none) (hov1 : ov[1]? = some [10, 0, 0, 0, 0, 0]) (hov2 : ov[2]? = some [99, 30, 50, 50, 1, 99999]) {d : Nat} {Q : Option Value → xe_H → Prop} {hb : xe_H} (kk : (∀ (r : Int32) (h' : xe_H), (0 ≤ r.toInt ∧ r.toInt ≤ 1) → xk [(0, 9), (115, 1), (83, 0), (29, 0), (31, 0), (33, 0), (35, 0), (37, 0), (39, 0), (41, 0), (43, 0), (45, 0), (47, 0), (49, 0), (51, 0), (125, 0), (29, 2), (31, 2), (33, 2), (35, 2), (37, 2), (39, 2), (41, 2), (43, 2), (45, 2), (47, 2), (49, 2), (51, 2), (127, 0), (1, 5), (115, 23)] hb h' → Q (some (.int r)) h')) : ∀ m : Nat, (∀ (x1 : Int32) (x2 : Int32) (x3 : Int32) (h : xe_H), (0 ≤ x1.toInt ∧ x1.toInt ≤ 63) → (0 ≤ x2.toInt ∧ x2.toInt ≤ 1) → (0 ≤ x3.toInt ∧ x3.toInt ≤ 8) → xk [(0, 9), (115, 1), (83, 0), (29, 0), (31, 0), (33, 0), (35, 0), (37, 0), (39, 0), (41, 0), (43, 0), (45, 0), (47, 0), (49, 0), (51, 0), (125, 0), (29, 2), (31, 2), (33, 2), (35, 2), (37, 2), (39, 2), (41, 2), (43, 2), (45, 2), (47, 2), (49, 2), (51, 2), (127, 0), (1, 5), (115, 23)] hb h → (-1) * x3.toInt + 8 < (m : Int) → xw J ov (d + 1) 53 (19, [(0, .ref 115), (1, .int x1), (2, .int x2), (3, .int x3)], [], h) Q) := by
  intro m
  induction m with
  | zero =>
    intro x1 x2 x3 h b1 b2 b3 K hm; exfalso; omega
  | succ m ih =>
    have i0 := ih
    intro x1 x2 x3 h b1 b2 b3 K hm
    refine xi_iload_n (pc' := 20) (x := x3) kc_53_19 rfl rfl ?_
    refine xi_aload_n (pc' := 21) (x := 115) kc_53_20 rfl rfl ?_
    refine xp_115 K.1 (fun u1 u2 u3 u4 u5 u6 u7 u8 u9 u10 u11 u12 u13 bu1 bu2 bu3 bu4 bu5 bu6 bu7 bu8 bu9 bu10 bu11 bu12 bu13 A14 => ?_)
    refine xi_getfield (pc' := 24) (v := .int u10) kc_53_21 rfl rfl rfl A14 rfl ?_
    by_cases c15 : u10.toInt ≤ x3.toInt
    · refine xi_cmt (pc' := 67) kc_53_24 rfl (xc_ge_t (X := x3.toInt) (Y := u10.toInt) rfl rfl (by omega)) ?_
      refine xi_iload_n (pc' := 68) (x := x2) kc_53_67 rfl rfl ?_
      by_cases c16 : x2.toInt = 0
      · have qx2 : x2 = 0 := xc_of (Eq.trans (by omega) (show (0 : Int) = (0 : Int32).toInt by decide))
        subst qx2
        refine xi_ireturn kc_53_68 mr_53 rfl ?_
        have zc0 : (0 : Int32).toInt = 0 := by decide
        exact kk 0 h (by omega) K
      have qx2 : x2 = 1 := xc_of (Eq.trans (by omega) (show (1 : Int) = (1 : Int32).toInt by decide))
      subst qx2
      refine xi_ireturn kc_53_68 mr_53 rfl ?_
      have zc1 : (1 : Int32).toInt = 1 := by decide
      exact kk 1 h (by omega) K
    · refine xi_cmf (pc' := 27) kc_53_24 rfl (xc_ge_f (X := x3.toInt) (Y := u10.toInt) rfl rfl (by omega)) ?_
      refine xi_iload_n (pc' := 28) (x := x2) kc_53_27 rfl rfl ?_
      by_cases c17 : x2.toInt = 0
      · refine xi_ift (pc' := 59) kc_53_28 rfl (xc_eq_t (X := x2.toInt) (Y := 0) rfl (by decide) (by omega)) ?_
        refine xi_iconst (pc' := 60) (v := 0) kc_53_59 rfl rfl ?_
        refine xi_istore_n (pc' := 61) (lv' := [(2, .int 0), (0, .ref 115), (1, .int x1), (3, .int x3)]) kc_53_60 rfl rfl (xm_lt ml_53 rfl) ?_
        refine xcps2 (α := Int32) (x3 + 1) (fun v18 ev18 => ?_)
        have zv18 : v18.toInt = (x3.toInt + 1) := by rw [← ev18]; exact (xz_add (X := x3.toInt) (Y := 1) rfl (by decide) (by omega) (by omega)).trans (by omega)
        refine xi_iinc (pc' := 64) (x := x3) (v := v18) (lv' := [(3, .int v18), (2, .int 0), (0, .ref 115), (1, .int x1)]) kc_53_61 rfl rfl ev18 rfl (xm_lt ml_53 rfl) ?_
        refine xi_goto (pc' := 19) kc_53_64 rfl ?_
        have zc0 : (0 : Int32).toInt = 0 := by decide
        refine xw_lv (b := [(0, .ref 115), (1, .int x1), (2, .int 0), (3, .int v18)]) (lvS_cons (lvS_cons (lvS_cons (lvS_cons (lvS_nil (show ([3, 2, 0, 1] : List Nat).Nodup by decide)) rfl) rfl) rfl) rfl) ?_
        exact i0 x1 0 v18 h (by omega) (by omega) (by omega) K (by omega)
      · refine xi_iff (pc' := 31) kc_53_28 rfl (xc_eq_f (X := x2.toInt) (Y := 0) rfl (by decide) (by omega)) ?_
        refine xi_aload_n (pc' := 32) (x := 115) kc_53_31 rfl rfl ?_
        refine xi_getfield (pc' := 35) (v := .ref 154) kc_53_32 rfl rfl rfl A14 rfl ?_
        refine xi_iload_n (pc' := 36) (x := x3) kc_53_35 rfl rfl ?_
        refine xcps4 (xk_arr K.1 xD_154) (fun y19 A19 hy19 ry19 => ?_)
        refine xcps4 (xj_get hy19 ry19 (i := x3) (by omega) (by omega)) (fun v20 ev20 bv20 dv20 => ?_)
        refine xi_iaload (pc' := 37) (v := v20) kc_53_36 rfl A19 (by decide) rfl (xi_in (by omega) (by rw [hy19]; omega)) ev20 ?_
        by_cases c21 : v20.toInt = 0
        · refine xi_ift (pc' := 55) kc_53_37 rfl (xc_eq_t (X := v20.toInt) (Y := 0) rfl (by decide) (by omega)) ?_
          refine xi_iconst (pc' := 56) (v := 1) kc_53_55 rfl rfl ?_
          refine xi_goto (pc' := 60) kc_53_56 rfl ?_
          refine xi_istore_n (pc' := 61) (lv' := [(2, .int 1), (0, .ref 115), (1, .int x1), (3, .int x3)]) kc_53_60 rfl rfl (xm_lt ml_53 rfl) ?_
          refine xcps2 (α := Int32) (x3 + 1) (fun v22 ev22 => ?_)
          have zv22 : v22.toInt = (x3.toInt + 1) := by rw [← ev22]; exact (xz_add (X := x3.toInt) (Y := 1) rfl (by decide) (by omega) (by omega)).trans (by omega)
          refine xi_iinc (pc' := 64) (x := x3) (v := v22) (lv' := [(3, .int v22), (2, .int 1), (0, .ref 115), (1, .int x1)]) kc_53_61 rfl rfl ev22 rfl (xm_lt ml_53 rfl) ?_
          refine xi_goto (pc' := 19) kc_53_64 rfl ?_
          have zc1 : (1 : Int32).toInt = 1 := by decide
          refine xw_lv (b := [(0, .ref 115), (1, .int x1), (2, .int 1), (3, .int v22)]) (lvS_cons (lvS_cons (lvS_cons (lvS_cons (lvS_nil (show ([3, 2, 0, 1] : List Nat).Nodup by decide)) rfl) rfl) rfl) rfl) ?_
          exact i0 x1 1 v22 h (by omega) (by omega) (by omega) K (by omega)
        · refine xi_iff (pc' := 40) kc_53_37 rfl (xc_eq_f (X := v20.toInt) (Y := 0) rfl (by decide) (by omega)) ?_
          refine xi_aload_n (pc' := 41) (x := 115) kc_53_40 rfl rfl ?_
          refine xi_getfield (pc' := 44) (v := .ref 154) kc_53_41 rfl rfl rfl A14 rfl ?_
          refine xi_iload_n (pc' := 45) (x := x3) kc_53_44 rfl rfl ?_
          refine xi_iaload (pc' := 46) (v := v20) kc_53_45 rfl A19 (by decide) rfl (xi_in (by omega) (by rw [hy19]; omega)) ev20 ?_
          refine xi_aload_n (pc' := 47) (x := 115) kc_53_46 rfl rfl ?_
          refine xi_iload_n (pc' := 48) (x := x3) kc_53_47 rfl rfl ?_
          refine xi_iload_n (pc' := 49) (x := x1) kc_53_48 rfl rfl ?_
          refine xi_virtual (mj := 54) (as := [.int x3, .int x1]) (st1 := [.int v20]) (lv0 := [(0, .ref 115), (1, .int x3), (2, .int x1)]) kc_53_49 rfl rfl rfl rfl rfl A14 (Nat.le_of_ble_eq_true rfl) (hJ _ _ _ _ (by decide)) (xm_le ml_54 rfl) rfl ?_
          refine xi_aload_n (pc' := 1) (x := 115) kc_54_0 rfl rfl ?_
          refine xi_getfield (pc' := 4) (v := .ref 152) kc_54_1 rfl rfl rfl A14 rfl ?_
          refine xi_iload_n (pc' := 5) (x := x3) kc_54_4 rfl rfl ?_
          refine xcps4 (xk_arr K.1 xD_152) (fun y23 A23 hy23 ry23 => ?_)
          refine xcps4 (xj_get hy23 ry23 (i := x3) (by omega) (by omega)) (fun v24 ev24 bv24 dv24 => ?_)
          refine xi_iaload (pc' := 6) (v := v24) kc_54_5 rfl A23 (by decide) rfl (xi_in (by omega) (by rw [hy23]; omega)) ev24 ?_
          refine xi_iload_n (pc' := 7) (x := x1) kc_54_6 rfl rfl ?_
          refine xcps2 (α := Int32) ((v24 : Int32) &&& x1) (fun v25 ev25 => ?_)
          have rv25 := xc_rng v25
          refine xi_iand (pc' := 8) (v := v25) kc_54_7 rfl ev25 ?_
          by_cases c26 : v25.toInt = 0
          · refine xi_ift (pc' := 15) kc_54_8 rfl (xc_eq_t (X := v25.toInt) (Y := 0) rfl (by decide) (by omega)) ?_
            refine xi_iconst (pc' := 16) (v := 2) kc_54_15 rfl rfl ?_
            refine xi_ireturn kc_54_16 mr_54 rfl ?_
            show xw J ov (d + 1) 53 (52, [(0, .ref 115), (1, .int x1), (2, .int x2), (3, .int x3)], [.int 2, .int v20], h) _
            by_cases c27 : v20.toInt = 2
            · refine xi_cmf (pc' := 55) kc_53_52 rfl (xc_ne_f (X := v20.toInt) (Y := 2) rfl (by decide) (by omega)) ?_
              refine xi_iconst (pc' := 56) (v := 1) kc_53_55 rfl rfl ?_
              refine xi_goto (pc' := 60) kc_53_56 rfl ?_
              refine xi_istore_n (pc' := 61) (lv' := [(2, .int 1), (0, .ref 115), (1, .int x1), (3, .int x3)]) kc_53_60 rfl rfl (xm_lt ml_53 rfl) ?_
              refine xcps2 (α := Int32) (x3 + 1) (fun v28 ev28 => ?_)
              have zv28 : v28.toInt = (x3.toInt + 1) := by rw [← ev28]; exact (xz_add (X := x3.toInt) (Y := 1) rfl (by decide) (by omega) (by omega)).trans (by omega)
              refine xi_iinc (pc' := 64) (x := x3) (v := v28) (lv' := [(3, .int v28), (2, .int 1), (0, .ref 115), (1, .int x1)]) kc_53_61 rfl rfl ev28 rfl (xm_lt ml_53 rfl) ?_
              refine xi_goto (pc' := 19) kc_53_64 rfl ?_
              have zc1 : (1 : Int32).toInt = 1 := by decide
              refine xw_lv (b := [(0, .ref 115), (1, .int x1), (2, .int 1), (3, .int v28)]) (lvS_cons (lvS_cons (lvS_cons (lvS_cons (lvS_nil (show ([3, 2, 0, 1] : List Nat).Nodup by decide)) rfl) rfl) rfl) rfl) ?_
              exact i0 x1 1 v28 h (by omega) (by omega) (by omega) K (by omega)
            · refine xi_cmt (pc' := 59) kc_53_52 rfl (xc_ne_t (X := v20.toInt) (Y := 2) rfl (by decide) (by omega)) ?_
              refine xi_iconst (pc' := 60) (v := 0) kc_53_59 rfl rfl ?_
              refine xi_istore_n (pc' := 61) (lv' := [(2, .int 0), (0, .ref 115), (1, .int x1), (3, .int x3)]) kc_53_60 rfl rfl (xm_lt ml_53 rfl) ?_
              refine xcps2 (α := Int32) (x3 + 1) (fun v29 ev29 => ?_)
              have zv29 : v29.toInt = (x3.toInt + 1) := by rw [← ev29]; exact (xz_add (X := x3.toInt) (Y := 1) rfl (by decide) (by omega) (by omega)).trans (by omega)
              refine xi_iinc (pc' := 64) (x := x3) (v := v29) (lv' := [(3, .int v29), (2, .int 0), (0, .ref 115), (1, .int x1)]) kc_53_61 rfl rfl ev29 rfl (xm_lt ml_53 rfl) ?_
              refine xi_goto (pc' := 19) kc_53_64 rfl ?_
              have zc0 : (0 : Int32).toInt = 0 := by decide
              refine xw_lv (b := [(0, .ref 115), (1, .int x1), (2, .int 0), (3, .int v29)]) (lvS_cons (lvS_cons (lvS_cons (lvS_cons (lvS_nil (show ([3, 2, 0, 1] : List Nat).Nodup by decide)) rfl) rfl) rfl) rfl) ?_
              exact i0 x1 0 v29 h (by omega) (by omega) (by omega) K (by omega)
          · refine xi_iff (pc' := 11) kc_54_8 rfl (xc_eq_f (X := v25.toInt) (Y := 0) rfl (by decide) (by omega)) ?_
            refine xi_iconst (pc' := 12) (v := 1) kc_54_11 rfl rfl ?_
            refine xi_goto (pc' := 16) kc_54_12 rfl ?_
            refine xi_ireturn kc_54_16 mr_54 rfl ?_
            show xw J ov (d + 1) 53 (52, [(0, .ref 115), (1, .int x1), (2, .int x2), (3, .int x3)], [.int 1, .int v20], h) _
            by_cases c30 : v20.toInt = 1
            · refine xi_cmf (pc' := 55) kc_53_52 rfl (xc_ne_f (X := v20.toInt) (Y := 1) rfl (by decide) (by omega)) ?_
              refine xi_iconst (pc' := 56) (v := 1) kc_53_55 rfl rfl ?_
              refine xi_goto (pc' := 60) kc_53_56 rfl ?_
              refine xi_istore_n (pc' := 61) (lv' := [(2, .int 1), (0, .ref 115), (1, .int x1), (3, .int x3)]) kc_53_60 rfl rfl (xm_lt ml_53 rfl) ?_
              refine xcps2 (α := Int32) (x3 + 1) (fun v31 ev31 => ?_)
              have zv31 : v31.toInt = (x3.toInt + 1) := by rw [← ev31]; exact (xz_add (X := x3.toInt) (Y := 1) rfl (by decide) (by omega) (by omega)).trans (by omega)
              refine xi_iinc (pc' := 64) (x := x3) (v := v31) (lv' := [(3, .int v31), (2, .int 1), (0, .ref 115), (1, .int x1)]) kc_53_61 rfl rfl ev31 rfl (xm_lt ml_53 rfl) ?_
              refine xi_goto (pc' := 19) kc_53_64 rfl ?_
              have zc1 : (1 : Int32).toInt = 1 := by decide
              refine xw_lv (b := [(0, .ref 115), (1, .int x1), (2, .int 1), (3, .int v31)]) (lvS_cons (lvS_cons (lvS_cons (lvS_cons (lvS_nil (show ([3, 2, 0, 1] : List Nat).Nodup by decide)) rfl) rfl) rfl) rfl) ?_
              exact i0 x1 1 v31 h (by omega) (by omega) (by omega) K (by omega)
            · refine xi_cmt (pc' := 59) kc_53_52 rfl (xc_ne_t (X := v20.toInt) (Y := 1) rfl (by decide) (by omega)) ?_
              refine xi_iconst (pc' := 60) (v := 0) kc_53_59 rfl rfl ?_
              refine xi_istore_n (pc' := 61) (lv' := [(2, .int 0), (0, .ref 115), (1, .int x1), (3, .int x3)]) kc_53_60 rfl rfl (xm_lt ml_53 rfl) ?_
              refine xcps2 (α := Int32) (x3 + 1) (fun v32 ev32 => ?_)
              have zv32 : v32.toInt = (x3.toInt + 1) := by rw [← ev32]; exact (xz_add (X := x3.toInt) (Y := 1) rfl (by decide) (by omega) (by omega)).trans (by omega)
              refine xi_iinc (pc' := 64) (x := x3) (v := v32) (lv' := [(3, .int v32), (2, .int 0), (0, .ref 115), (1, .int x1)]) kc_53_61 rfl rfl ev32 rfl (xm_lt ml_53 rfl) ?_
              refine xi_goto (pc' := 19) kc_53_64 rfl ?_
              have zc0 : (0 : Int32).toInt = 0 := by decide
              refine xw_lv (b := [(0, .ref 115), (1, .int x1), (2, .int 0), (3, .int v32)]) (lvS_cons (lvS_cons (lvS_cons (lvS_cons (lvS_nil (show ([3, 2, 0, 1] : List Nat).Nodup by decide)) rfl) rfl) rfl) rfl) ?_
              exact i0 x1 0 v32 h (by omega) (by omega) (by omega) K (by omega)
set_option maxHeartbeats 4000000 in
theorem mt_53_0 {J : xe_J} {ov : List (List Int32)} (hJ : ∀ d mj as h, mj ≠ xe_loff → J d mj as h = none) (hov1 : ov[1]? = some [10, 0, 0, 0, 0, 0]) (hov2 : ov[2]? = some [99, 30, 50, 50, 1, 99999]) {d : Nat} {Q : Option Value → xe_H → Prop} {h : xe_H} {x1 : Int32} (T : xt h) (b1 : (0 ≤ x1.toInt ∧ x1.toInt ≤ 63)) (kk : (∀ (r : Int32) (h' : xe_H), (0 ≤ r.toInt ∧ r.toInt ≤ 1) → xk [(0, 9), (115, 1), (83, 0), (29, 0), (31, 0), (33, 0), (35, 0), (37, 0), (39, 0), (41, 0), (43, 0), (45, 0), (47, 0), (49, 0), (51, 0), (125, 0), (29, 2), (31, 2), (33, 2), (35, 2), (37, 2), (39, 2), (41, 2), (43, 2), (45, 2), (47, 2), (49, 2), (51, 2), (127, 0), (1, 5), (115, 23)] h h' → Q (some (.int r)) h')) : xw J ov (d + 1) 53 (0, [(0, .ref 115), (1, .int x1)], [], h) Q := by
  have K : xk [(0, 9), (115, 1), (83, 0), (29, 0), (31, 0), (33, 0), (35, 0), (37, 0), (39, 0), (41, 0), (43, 0), (45, 0), (47, 0), (49, 0), (51, 0), (125, 0), (29, 2), (31, 2), (33, 2), (35, 2), (37, 2), (39, 2), (41, 2), (43, 2), (45, 2), (47, 2), (49, 2), (51, 2), (127, 0), (1, 5), (115, 23)] h h := xk_re T
  refine xi_aload_n (pc' := 1) (x := 115) kc_53_0 rfl rfl ?_
  refine xp_115 K.1 (fun u1 u2 u3 u4 u5 u6 u7 u8 u9 u10 u11 u12 u13 bu1 bu2 bu3 bu4 bu5 bu6 bu7 bu8 bu9 bu10 bu11 bu12 bu13 A14 => ?_)
  refine xi_getfield (pc' := 4) (v := .ref 149) kc_53_1 rfl rfl rfl A14 rfl ?_
  refine xi_iload_n (pc' := 5) (x := x1) kc_53_4 rfl rfl ?_
  obtain ⟨y15, A15, hy15⟩ := xk_larr K.1 xD_149
  refine xcps2 (α := Int64) (y15.getD (Int32.toNatClampNeg x1) 0) (fun v16 ev16 => ?_)
  refine xi_laload (pc' := 6) (v := v16) kc_53_5 rfl A15 rfl (xi_in (by omega) (by rw [hy15]; omega)) ev16 ?_
  refine xi_lconst (pc' := 7) (v := 0) kc_53_6 rfl rfl ?_
  refine xcps2 (α := Int32) (lg_cmp v16 0) (fun v17 ev17 => ?_)
  have rv17 := xc_rng v17
  refine xi_lcmp (pc' := 8) (v := v17) kc_53_7 rfl ev17 ?_
  by_cases c18 : v17.toInt = 0
  · refine xi_iff (pc' := 11) kc_53_8 rfl (xc_ne_f (X := v17.toInt) (Y := 0) rfl (by decide) (by omega)) ?_
    refine xi_iconst (pc' := 12) (v := 1) kc_53_11 rfl rfl ?_
    refine xi_goto (pc' := 16) kc_53_12 rfl ?_
    refine xi_istore_n (pc' := 17) (lv' := [(2, .int 1), (0, .ref 115), (1, .int x1)]) kc_53_16 rfl rfl (xm_lt ml_53 rfl) ?_
    refine xi_iconst (pc' := 18) (v := 0) kc_53_17 rfl rfl ?_
    refine xi_istore_n (pc' := 19) (lv' := [(3, .int 0), (2, .int 1), (0, .ref 115), (1, .int x1)]) kc_53_18 rfl rfl (xm_lt ml_53 rfl) ?_
    have zc0 : (0 : Int32).toInt = 0 := by decide
    have zc1 : (1 : Int32).toInt = 1 := by decide
    refine xw_lv (b := [(0, .ref 115), (1, .int x1), (2, .int 1), (3, .int 0)]) (lvS_cons (lvS_cons (lvS_cons (lvS_cons (lvS_nil (show ([3, 2, 0, 1] : List Nat).Nodup by decide)) rfl) rfl) rfl) rfl) ?_
    exact (lp_53_0 hJ hov1 hov2 (d := d) (hb := h) (fun r9 h9 b9 K9 => kk r9 h9 b9 (xk_tr K K9 rfl)) 9) x1 1 0 h (by omega) (by omega) (by omega) (xk_re K.1) (by omega)
  · have zv16c18 : v16 ≠ 0 := xj_lc ev17 (by omega)
    refine xi_ift (pc' := 15) kc_53_8 rfl (xc_ne_t (X := v17.toInt) (Y := 0) rfl (by decide) (by omega)) ?_
    refine xi_iconst (pc' := 16) (v := 0) kc_53_15 rfl rfl ?_
    refine xi_istore_n (pc' := 17) (lv' := [(2, .int 0), (0, .ref 115), (1, .int x1)]) kc_53_16 rfl rfl (xm_lt ml_53 rfl) ?_
    refine xi_iconst (pc' := 18) (v := 0) kc_53_17 rfl rfl ?_
    refine xi_istore_n (pc' := 19) (lv' := [(3, .int 0), (2, .int 0), (0, .ref 115), (1, .int x1)]) kc_53_18 rfl rfl (xm_lt ml_53 rfl) ?_
    have zc0 : (0 : Int32).toInt = 0 := by decide
    refine xw_lv (b := [(0, .ref 115), (1, .int x1), (2, .int 0), (3, .int 0)]) (lvS_cons (lvS_cons (lvS_cons (lvS_cons (lvS_nil (show ([3, 2, 0, 1] : List Nat).Nodup by decide)) rfl) rfl) rfl) rfl) ?_
    exact (lp_53_0 hJ hov1 hov2 (d := d) (hb := h) (fun r9 h9 b9 K9 => kk r9 h9 b9 (xk_tr K K9 rfl)) 9) x1 0 0 h (by omega) (by omega) (by omega) (xk_re K.1) (by omega)
set_option maxHeartbeats 4000000 in
theorem lp_52_0 {J : xe_J} {ov : List (List Int32)} (hJ : ∀ d mj as h, mj ≠ xe_loff → J d mj as h = none) (hov1 : ov[1]? = some [10, 0, 0, 0, 0, 0]) (hov2 : ov[2]? = some [99, 30, 50, 50, 1, 99999]) {d : Nat} {Q : Option Value → xe_H → Prop} {hb : xe_H} (kk : (∀ (r : Int32) (h' : xe_H), xk [(0, 9), (115, 1), (83, 0), (29, 0), (31, 0), (33, 0), (35, 0), (37, 0), (39, 0), (41, 0), (43, 0), (45, 0), (47, 0), (49, 0), (51, 0), (125, 0), (29, 2), (31, 2), (33, 2), (35, 2), (37, 2), (39, 2), (41, 2), (43, 2), (45, 2), (47, 2), (49, 2), (51, 2), (127, 0), (1, 5), (115, 23)] hb h' → Q (some (.int r)) h')) : ∀ m : Nat, (∀ (x1 : Int32) (x2 : Int32) (h : xe_H), (0 ≤ x2.toInt ∧ x2.toInt ≤ 64) → xk [(0, 9), (115, 1), (83, 0), (29, 0), (31, 0), (33, 0), (35, 0), (37, 0), (39, 0), (41, 0), (43, 0), (45, 0), (47, 0), (49, 0), (51, 0), (125, 0), (29, 2), (31, 2), (33, 2), (35, 2), (37, 2), (39, 2), (41, 2), (43, 2), (45, 2), (47, 2), (49, 2), (51, 2), (127, 0), (1, 5), (115, 23)] hb h → (-1) * x2.toInt + 64 < (m : Int) → xw J ov (d + 7) 52 (8, [(0, .ref 115), (1, .int x1), (2, .int x2)], [], h) Q) := by
  intro m
  induction m with
  | zero =>
    intro x1 x2 h b2 K hm; have rx1 := xc_rng x1; exfalso; omega
  | succ m ih =>
    have i0 := ih
    intro x1 x2 h b2 K hm
    have rx1 := xc_rng x1
    refine xi_iload_n (pc' := 9) (x := x2) kc_52_8 rfl rfl ?_
    refine xi_aload_n (pc' := 10) (x := 115) kc_52_9 rfl rfl ?_
    refine xp_115 K.1 (fun u1 u2 u3 u4 u5 u6 u7 u8 u9 u10 u11 u12 u13 bu1 bu2 bu3 bu4 bu5 bu6 bu7 bu8 bu9 bu10 bu11 bu12 bu13 A14 => ?_)
    refine xi_virtual (mj := 42) (as := []) (st1 := [.int x2]) (lv0 := [(0, .ref 115)]) kc_52_10 rfl rfl rfl rfl rfl A14 (Nat.le_of_ble_eq_true rfl) (hJ _ _ _ _ (by decide)) (xm_le ml_42 rfl) rfl ?_
    refine xi_iconst (pc' := 1) (v := 1) kc_42_0 rfl rfl ?_
    refine xi_aload_n (pc' := 2) (x := 115) kc_42_1 rfl rfl ?_
    refine xi_getfield (pc' := 5) (v := .int u5) kc_42_2 rfl rfl rfl A14 rfl ?_
    refine xi_bipush (pc' := 7) (v := 6) kc_42_5 rfl rfl ?_
    by_cases c15 : 6 ≤ u5.toInt
    · refine xi_cmt (pc' := 17) kc_42_7 rfl (xc_ge_t (X := u5.toInt) (Y := 6) rfl (by decide) (by omega)) ?_
      refine xi_bipush (pc' := 19) (v := 6) kc_42_17 rfl rfl ?_
      refine xi_ishl (pc' := 20) (v := 64) kc_42_19 rfl rfl ?_
      refine xi_ireturn kc_42_20 mr_42 rfl ?_
      show xw J ov (d + 7) 52 (13, [(0, .ref 115), (1, .int x1), (2, .int x2)], [.int 64, .int x2], h) _
      by_cases c16 : 64 ≤ x2.toInt
      · refine xi_cmt (pc' := 38) kc_52_13 rfl (xc_ge_t (X := x2.toInt) (Y := 64) rfl (by decide) (by omega)) ?_
        refine xi_iload_n (pc' := 39) (x := x1) kc_52_38 rfl rfl ?_
        refine xi_ireturn kc_52_39 mr_52 rfl ?_
        exact kk x1 h K
      · refine xi_cmf (pc' := 16) kc_52_13 rfl (xc_ge_f (X := x2.toInt) (Y := 64) rfl (by decide) (by omega)) ?_
        refine xi_iload_n (pc' := 17) (x := x1) kc_52_16 rfl rfl ?_
        refine xi_aload_n (pc' := 18) (x := 115) kc_52_17 rfl rfl ?_
        refine xi_iload_n (pc' := 19) (x := x2) kc_52_18 rfl rfl ?_
        refine xi_virtual (mj := 53) (as := [.int x2]) (st1 := [.int x1]) (lv0 := [(0, .ref 115), (1, .int x2)]) kc_52_19 rfl rfl rfl rfl rfl A14 (Nat.le_of_ble_eq_true rfl) (hJ _ _ _ _ (by decide)) (xm_le ml_53 rfl) rfl ?_
        refine mt_53_0 hJ hov1 hov2 (d := d + 5) (x1 := x2) K.1 (by first | omega | decide) (fun r17 hh18 br17 K19 => ?_)
        have K20 := xk_tr K K19 rfl
        refine xp_115 K20.1 (fun u21 u22 u23 u24 u25 u26 u27 u28 u29 u30 u31 u32 u33 bu21 bu22 bu23 bu24 bu25 bu26 bu27 bu28 bu29 bu30 bu31 bu32 bu33 A34 => ?_)
        have e35 : u2 = u22 := xk_eqi (q := 1) K19 rfl A14 A34 rfl rfl
        subst e35
        have e36 : u5 = u25 := xk_eqi (q := 23) K19 rfl A14 A34 rfl rfl
        subst e36
        show xw J ov (d + 7) 52 (22, [(0, .ref 115), (1, .int x1), (2, .int x2)], [.int r17, .int x1], hh18) _
        by_cases c37 : r17.toInt = 0
        · refine xi_ift (pc' := 29) kc_52_22 rfl (xc_eq_t (X := r17.toInt) (Y := 0) rfl (by decide) (by omega)) ?_
          refine xi_iconst (pc' := 30) (v := 0) kc_52_29 rfl rfl ?_
          refine xcps2 (α := Int32) (x1 + 0) (fun v38 ev38 => ?_)
          have zv38 : v38.toInt = x1.toInt := by rw [← ev38]; exact (xz_add (X := x1.toInt) (Y := 0) rfl (by decide) (by omega) (by omega)).trans (by omega)
          refine xi_iadd (pc' := 31) (v := v38) kc_52_30 rfl ev38 ?_
          refine xi_istore_n (pc' := 32) (lv' := [(1, .int v38), (0, .ref 115), (2, .int x2)]) kc_52_31 rfl rfl (xm_lt ml_52 rfl) ?_
          refine xcps2 (α := Int32) (x2 + 1) (fun v39 ev39 => ?_)
          have zv39 : v39.toInt = (x2.toInt + 1) := by rw [← ev39]; exact (xz_add (X := x2.toInt) (Y := 1) rfl (by decide) (by omega) (by omega)).trans (by omega)
          refine xi_iinc (pc' := 35) (x := x2) (v := v39) (lv' := [(2, .int v39), (1, .int v38), (0, .ref 115)]) kc_52_32 rfl rfl ev39 rfl (xm_lt ml_52 rfl) ?_
          refine xi_goto (pc' := 8) kc_52_35 rfl ?_
          refine xw_lv (b := [(0, .ref 115), (1, .int v38), (2, .int v39)]) (lvS_cons (lvS_cons (lvS_cons (lvS_nil (show ([2, 1, 0] : List Nat).Nodup by decide)) rfl) rfl) rfl) ?_
          exact i0 v38 v39 hh18 (by omega) K20 (by omega)
        · refine xi_iff (pc' := 25) kc_52_22 rfl (xc_eq_f (X := r17.toInt) (Y := 0) rfl (by decide) (by omega)) ?_
          refine xi_iconst (pc' := 26) (v := 1) kc_52_25 rfl rfl ?_
          refine xi_goto (pc' := 30) kc_52_26 rfl ?_
          refine xcps2 (α := Int32) ((x1 : Int32) + 1) (fun v40 ev40 => ?_)
          have rv40 := xc_rng v40
          refine xi_iadd (pc' := 31) (v := v40) kc_52_30 rfl ev40 ?_
          refine xi_istore_n (pc' := 32) (lv' := [(1, .int v40), (0, .ref 115), (2, .int x2)]) kc_52_31 rfl rfl (xm_lt ml_52 rfl) ?_
          refine xcps2 (α := Int32) (x2 + 1) (fun v41 ev41 => ?_)
          have zv41 : v41.toInt = (x2.toInt + 1) := by rw [← ev41]; exact (xz_add (X := x2.toInt) (Y := 1) rfl (by decide) (by omega) (by omega)).trans (by omega)
          refine xi_iinc (pc' := 35) (x := x2) (v := v41) (lv' := [(2, .int v41), (1, .int v40), (0, .ref 115)]) kc_52_32 rfl rfl ev41 rfl (xm_lt ml_52 rfl) ?_
          refine xi_goto (pc' := 8) kc_52_35 rfl ?_
          refine xw_lv (b := [(0, .ref 115), (1, .int v40), (2, .int v41)]) (lvS_cons (lvS_cons (lvS_cons (lvS_nil (show ([2, 1, 0] : List Nat).Nodup by decide)) rfl) rfl) rfl) ?_
          exact i0 v40 v41 hh18 (by omega) K20 (by omega)
    · refine xi_cmf (pc' := 10) kc_42_7 rfl (xc_ge_f (X := u5.toInt) (Y := 6) rfl (by decide) (by omega)) ?_
      refine xi_aload_n (pc' := 11) (x := 115) kc_42_10 rfl rfl ?_
      refine xi_getfield (pc' := 14) (v := .int u5) kc_42_11 rfl rfl rfl A14 rfl ?_
      refine xi_goto (pc' := 19) kc_42_14 rfl ?_
      refine xcps2 (α := Int32) ((1 : Int32) <<< (u5 &&& 31)) (fun v42 ev42 => ?_)
      have rv42 := xc_rng v42
      have bv42 : 1 ≤ v42.toInt ∧ v42.toInt ≤ 64 := by rw [← ev42]; exact xj_shl6 (by omega) (by omega)
      refine xi_ishl (pc' := 20) (v := v42) kc_42_19 rfl ev42 ?_
      refine xi_ireturn kc_42_20 mr_42 rfl ?_
      show xw J ov (d + 7) 52 (13, [(0, .ref 115), (1, .int x1), (2, .int x2)], [.int v42, .int x2], h) _
      by_cases c43 : v42.toInt ≤ x2.toInt
      · refine xi_cmt (pc' := 38) kc_52_13 rfl (xc_ge_t (X := x2.toInt) (Y := v42.toInt) rfl rfl (by omega)) ?_
        refine xi_iload_n (pc' := 39) (x := x1) kc_52_38 rfl rfl ?_
        refine xi_ireturn kc_52_39 mr_52 rfl ?_
        exact kk x1 h K
      · refine xi_cmf (pc' := 16) kc_52_13 rfl (xc_ge_f (X := x2.toInt) (Y := v42.toInt) rfl rfl (by omega)) ?_
        refine xi_iload_n (pc' := 17) (x := x1) kc_52_16 rfl rfl ?_
        refine xi_aload_n (pc' := 18) (x := 115) kc_52_17 rfl rfl ?_
        refine xi_iload_n (pc' := 19) (x := x2) kc_52_18 rfl rfl ?_
        refine xi_virtual (mj := 53) (as := [.int x2]) (st1 := [.int x1]) (lv0 := [(0, .ref 115), (1, .int x2)]) kc_52_19 rfl rfl rfl rfl rfl A14 (Nat.le_of_ble_eq_true rfl) (hJ _ _ _ _ (by decide)) (xm_le ml_53 rfl) rfl ?_
        refine mt_53_0 hJ hov1 hov2 (d := d + 5) (x1 := x2) K.1 (by first | omega | decide) (fun r44 hh45 br44 K46 => ?_)
        have K47 := xk_tr K K46 rfl
        refine xp_115 K47.1 (fun u48 u49 u50 u51 u52 u53 u54 u55 u56 u57 u58 u59 u60 bu48 bu49 bu50 bu51 bu52 bu53 bu54 bu55 bu56 bu57 bu58 bu59 bu60 A61 => ?_)
        have e62 : u2 = u49 := xk_eqi (q := 1) K46 rfl A14 A61 rfl rfl
        subst e62
        have e63 : u5 = u52 := xk_eqi (q := 23) K46 rfl A14 A61 rfl rfl
        subst e63
        show xw J ov (d + 7) 52 (22, [(0, .ref 115), (1, .int x1), (2, .int x2)], [.int r44, .int x1], hh45) _
        by_cases c64 : r44.toInt = 0
        · refine xi_ift (pc' := 29) kc_52_22 rfl (xc_eq_t (X := r44.toInt) (Y := 0) rfl (by decide) (by omega)) ?_
          refine xi_iconst (pc' := 30) (v := 0) kc_52_29 rfl rfl ?_
          refine xcps2 (α := Int32) (x1 + 0) (fun v65 ev65 => ?_)
          have zv65 : v65.toInt = x1.toInt := by rw [← ev65]; exact (xz_add (X := x1.toInt) (Y := 0) rfl (by decide) (by omega) (by omega)).trans (by omega)
          refine xi_iadd (pc' := 31) (v := v65) kc_52_30 rfl ev65 ?_
          refine xi_istore_n (pc' := 32) (lv' := [(1, .int v65), (0, .ref 115), (2, .int x2)]) kc_52_31 rfl rfl (xm_lt ml_52 rfl) ?_
          refine xcps2 (α := Int32) (x2 + 1) (fun v66 ev66 => ?_)
          have zv66 : v66.toInt = (x2.toInt + 1) := by rw [← ev66]; exact (xz_add (X := x2.toInt) (Y := 1) rfl (by decide) (by omega) (by omega)).trans (by omega)
          refine xi_iinc (pc' := 35) (x := x2) (v := v66) (lv' := [(2, .int v66), (1, .int v65), (0, .ref 115)]) kc_52_32 rfl rfl ev66 rfl (xm_lt ml_52 rfl) ?_
          refine xi_goto (pc' := 8) kc_52_35 rfl ?_
          refine xw_lv (b := [(0, .ref 115), (1, .int v65), (2, .int v66)]) (lvS_cons (lvS_cons (lvS_cons (lvS_nil (show ([2, 1, 0] : List Nat).Nodup by decide)) rfl) rfl) rfl) ?_
          exact i0 v65 v66 hh45 (by omega) K47 (by omega)
        · refine xi_iff (pc' := 25) kc_52_22 rfl (xc_eq_f (X := r44.toInt) (Y := 0) rfl (by decide) (by omega)) ?_
          refine xi_iconst (pc' := 26) (v := 1) kc_52_25 rfl rfl ?_
          refine xi_goto (pc' := 30) kc_52_26 rfl ?_
          refine xcps2 (α := Int32) ((x1 : Int32) + 1) (fun v67 ev67 => ?_)
          have rv67 := xc_rng v67
          refine xi_iadd (pc' := 31) (v := v67) kc_52_30 rfl ev67 ?_
          refine xi_istore_n (pc' := 32) (lv' := [(1, .int v67), (0, .ref 115), (2, .int x2)]) kc_52_31 rfl rfl (xm_lt ml_52 rfl) ?_
          refine xcps2 (α := Int32) (x2 + 1) (fun v68 ev68 => ?_)
          have zv68 : v68.toInt = (x2.toInt + 1) := by rw [← ev68]; exact (xz_add (X := x2.toInt) (Y := 1) rfl (by decide) (by omega) (by omega)).trans (by omega)
          refine xi_iinc (pc' := 35) (x := x2) (v := v68) (lv' := [(2, .int v68), (1, .int v67), (0, .ref 115)]) kc_52_32 rfl rfl ev68 rfl (xm_lt ml_52 rfl) ?_
          refine xi_goto (pc' := 8) kc_52_35 rfl ?_
          refine xw_lv (b := [(0, .ref 115), (1, .int v67), (2, .int v68)]) (lvS_cons (lvS_cons (lvS_cons (lvS_nil (show ([2, 1, 0] : List Nat).Nodup by decide)) rfl) rfl) rfl) ?_
          exact i0 v67 v68 hh45 (by omega) K47 (by omega)
set_option maxHeartbeats 4000000 in
theorem mt_52_0 {J : xe_J} {ov : List (List Int32)} (hJ : ∀ d mj as h, mj ≠ xe_loff → J d mj as h = none) (hov1 : ov[1]? = some [10, 0, 0, 0, 0, 0]) (hov2 : ov[2]? = some [99, 30, 50, 50, 1, 99999]) {d : Nat} {Q : Option Value → xe_H → Prop} {h : xe_H} (T : xt h) (kk : (∀ (r : Int32) (h' : xe_H), xk [(0, 9), (115, 1), (83, 0), (29, 0), (31, 0), (33, 0), (35, 0), (37, 0), (39, 0), (41, 0), (43, 0), (45, 0), (47, 0), (49, 0), (51, 0), (125, 0), (29, 2), (31, 2), (33, 2), (35, 2), (37, 2), (39, 2), (41, 2), (43, 2), (45, 2), (47, 2), (49, 2), (51, 2), (127, 0), (1, 5), (115, 23)] h h' → Q (some (.int r)) h')) : xw J ov (d + 7) 52 (0, [(0, .ref 115)], [], h) Q := by
  have K : xk [(0, 9), (115, 1), (83, 0), (29, 0), (31, 0), (33, 0), (35, 0), (37, 0), (39, 0), (41, 0), (43, 0), (45, 0), (47, 0), (49, 0), (51, 0), (125, 0), (29, 2), (31, 2), (33, 2), (35, 2), (37, 2), (39, 2), (41, 2), (43, 2), (45, 2), (47, 2), (49, 2), (51, 2), (127, 0), (1, 5), (115, 23)] h h := xk_re T
  refine xi_aload_n (pc' := 1) (x := 115) kc_52_0 rfl rfl ?_
  refine xp_115 K.1 (fun u1 u2 u3 u4 u5 u6 u7 u8 u9 u10 u11 u12 u13 bu1 bu2 bu3 bu4 bu5 bu6 bu7 bu8 bu9 bu10 bu11 bu12 bu13 A14 => ?_)
  refine xi_virtual (mj := 43) (as := []) (st1 := []) (lv0 := [(0, .ref 115)]) kc_52_1 rfl rfl rfl rfl rfl A14 (Nat.le_of_ble_eq_true rfl) (hJ _ _ _ _ (by decide)) (xm_le ml_43 rfl) rfl ?_
  refine mt_43_0 hJ hov1 hov2 (d := d)  K.1 (fun hh16 K17 => ?_)
  have K18 := xk_tr K K17 rfl
  refine xp_115 K18.1 (fun u19 u20 u21 u22 u23 u24 u25 u26 u27 u28 u29 u30 u31 bu19 bu20 bu21 bu22 bu23 bu24 bu25 bu26 bu27 bu28 bu29 bu30 bu31 A32 => ?_)
  have e33 : u2 = u20 := xk_eqi (q := 1) K17 rfl A14 A32 rfl rfl
  subst e33
  have e34 : u5 = u23 := xk_eqi (q := 23) K17 rfl A14 A32 rfl rfl
  subst e34
  show xw J ov (d + 7) 52 (4, [(0, .ref 115)], [], hh16) _
  refine xi_iconst (pc' := 5) (v := 0) kc_52_4 rfl rfl ?_
  refine xi_istore_n (pc' := 6) (lv' := [(1, .int 0), (0, .ref 115)]) kc_52_5 rfl rfl (xm_lt ml_52 rfl) ?_
  refine xi_iconst (pc' := 7) (v := 0) kc_52_6 rfl rfl ?_
  refine xi_istore_n (pc' := 8) (lv' := [(2, .int 0), (1, .int 0), (0, .ref 115)]) kc_52_7 rfl rfl (xm_lt ml_52 rfl) ?_
  have zc0 : (0 : Int32).toInt = 0 := by decide
  refine xw_lv (b := [(0, .ref 115), (1, .int 0), (2, .int 0)]) (lvS_cons (lvS_cons (lvS_cons (lvS_nil (show ([2, 1, 0] : List Nat).Nodup by decide)) rfl) rfl) rfl) ?_
  exact (lp_52_0 hJ hov1 hov2 (d := d) (hb := hh16) (fun r9 h9 K9 => kk r9 h9 (xk_tr K18 K9 rfl)) 65) 0 0 hh16 (by omega) (xk_re K18.1) (by omega)
set_option maxHeartbeats 4000000 in
theorem mt_51_0 {J : xe_J} {ov : List (List Int32)} (hJ : ∀ d mj as h, mj ≠ xe_loff → J d mj as h = none) (hov1 : ov[1]? = some [10, 0, 0, 0, 0, 0]) (hov2 : ov[2]? = some [99, 30, 50, 50, 1, 99999]) {d : Nat} {Q : Option Value → xe_H → Prop} {h : xe_H} (T : xt h) (kk : (∀ (r : Int32) (h' : xe_H), xk [(0, 9), (115, 1), (83, 0), (29, 0), (31, 0), (33, 0), (35, 0), (37, 0), (39, 0), (41, 0), (43, 0), (45, 0), (47, 0), (49, 0), (51, 0), (125, 0), (29, 2), (31, 2), (33, 2), (35, 2), (37, 2), (39, 2), (41, 2), (43, 2), (45, 2), (47, 2), (49, 2), (51, 2), (127, 0), (1, 5), (115, 23)] h h' → Q (some (.int r)) h')) : xw J ov (d + 8) 51 (0, [(0, .ref 115)], [], h) Q := by
  have K : xk [(0, 9), (115, 1), (83, 0), (29, 0), (31, 0), (33, 0), (35, 0), (37, 0), (39, 0), (41, 0), (43, 0), (45, 0), (47, 0), (49, 0), (51, 0), (125, 0), (29, 2), (31, 2), (33, 2), (35, 2), (37, 2), (39, 2), (41, 2), (43, 2), (45, 2), (47, 2), (49, 2), (51, 2), (127, 0), (1, 5), (115, 23)] h h := xk_re T
  refine xi_aload_n (pc' := 1) (x := 115) kc_51_0 rfl rfl ?_
  refine xi_iconst (pc' := 2) (v := 0) kc_51_1 rfl rfl ?_
  refine xp_115 K.1 (fun u1 u2 u3 u4 u5 u6 u7 u8 u9 u10 u11 u12 u13 bu1 bu2 bu3 bu4 bu5 bu6 bu7 bu8 bu9 bu10 bu11 bu12 bu13 A14 => ?_)
  refine xi_putfield (pc' := 5) (fs' := [.int 0, .int u2, .ref 116, .ref 117, .ref 118, .ref 119, .ref 120, .ref 121, .ref 122, .ref 123, .ref 124, .ref 125, .ref 126, .ref 127, .ref 128, .ref 129, .int u3, .ref 130, .int u4, .ref 131, .ref 132, .ref 133, .ref 134, .int u5, .ref 135, .ref 136, .ref 137, .ref 138, .ref 139, .ref 140, .ref 141, .ref 142, .int u6, .int u7, .int u8, .ref 143, .ref 144, .ref 145, .ref 146, .ref 147, .ref 148, .int u9, .ref 149, .ref 150, .ref 151, .int u10, .ref 152, .ref 153, .ref 154, .ref 155, .ref 156, .ref 157, .ref 158, .ref 159, .int u11, .ref 160, .int u12, .ref 161, .ref 162, .ref 163, .ref 164, .int u13, .ref 165, .ref 166]) kc_51_2 rfl rfl rfl A14 rfl rfl rfl (Nat.le_of_ble_eq_true rfl) rfl (fun hh16 eh15 => ?_)
  have K17 := xk_pf (k := 0) (v := 0) K (xk_wf rfl) xD_115 A14 rfl (by first | omega | decide) (by first | omega | decide) eh15 rfl
  refine xi_aload_n (pc' := 6) (x := 115) kc_51_5 rfl rfl ?_
  refine xi_virtual (mj := 52) (as := []) (st1 := []) (lv0 := [(0, .ref 115)]) kc_51_6 rfl rfl rfl rfl rfl eh15.1 (Nat.le_of_ble_eq_true rfl) (hJ _ _ _ _ (by decide)) (xm_le ml_52 rfl) rfl ?_
  refine mt_52_0 hJ hov1 hov2 (d := d)  K17.1 (fun r18 hh19 K20 => ?_)
  have br18 := xc_rng r18
  have K21 := xk_tr K17 K20 rfl
  refine xp_115 K21.1 (fun u22 u23 u24 u25 u26 u27 u28 u29 u30 u31 u32 u33 u34 bu22 bu23 bu24 bu25 bu26 bu27 bu28 bu29 bu30 bu31 bu32 bu33 bu34 A35 => ?_)
  have e36 : u2 = u23 := xk_eqi (q := 1) K20 rfl eh15.1 A35 rfl rfl
  subst e36
  have e37 : u5 = u26 := xk_eqi (q := 23) K20 rfl eh15.1 A35 rfl rfl
  subst e37
  show xw J ov (d + 8) 51 (9, [(0, .ref 115)], [.int r18], hh19) _
  refine xi_ireturn kc_51_9 mr_51 rfl ?_
  exact kk r18 hh19 K21
set_option maxHeartbeats 4000000 in
theorem mt_55_0 {J : xe_J} {ov : List (List Int32)} (hJ : ∀ d mj as h, mj ≠ xe_loff → J d mj as h = none) (hov1 : ov[1]? = some [10, 0, 0, 0, 0, 0]) (hov2 : ov[2]? = some [99, 30, 50, 50, 1, 99999]) {d : Nat} {Q : Option Value → xe_H → Prop} {h : xe_H} {x1 : Int32} {x2 : Int32} (T : xt h) (kk : (∀ (r : Int32) (h' : xe_H), ((-6) ≤ r.toInt ∧ r.toInt ≤ 7) → xk [(0, 9), (115, 1), (83, 0), (29, 0), (31, 0), (33, 0), (35, 0), (37, 0), (39, 0), (41, 0), (43, 0), (45, 0), (47, 0), (49, 0), (51, 0), (125, 0), (29, 2), (31, 2), (33, 2), (35, 2), (37, 2), (39, 2), (41, 2), (43, 2), (45, 2), (47, 2), (49, 2), (51, 2), (127, 0), (1, 5), (115, 23)] h h' → Q (some (.int r)) h')) : xw J ov (d + 1) 55 (0, [(0, .ref 115), (1, .int x1), (2, .int x2)], [], h) Q := by
  have K : xk [(0, 9), (115, 1), (83, 0), (29, 0), (31, 0), (33, 0), (35, 0), (37, 0), (39, 0), (41, 0), (43, 0), (45, 0), (47, 0), (49, 0), (51, 0), (125, 0), (29, 2), (31, 2), (33, 2), (35, 2), (37, 2), (39, 2), (41, 2), (43, 2), (45, 2), (47, 2), (49, 2), (51, 2), (127, 0), (1, 5), (115, 23)] h h := xk_re T
  have rx1 := xc_rng x1
  have rx2 := xc_rng x2
  refine xi_aload_n (pc' := 1) (x := 115) kc_55_0 rfl rfl ?_
  refine xi_iconst (pc' := 2) (v := 0) kc_55_1 rfl rfl ?_
  refine xp_115 K.1 (fun u1 u2 u3 u4 u5 u6 u7 u8 u9 u10 u11 u12 u13 bu1 bu2 bu3 bu4 bu5 bu6 bu7 bu8 bu9 bu10 bu11 bu12 bu13 A14 => ?_)
  refine xi_putfield (pc' := 5) (fs' := [.int 0, .int u2, .ref 116, .ref 117, .ref 118, .ref 119, .ref 120, .ref 121, .ref 122, .ref 123, .ref 124, .ref 125, .ref 126, .ref 127, .ref 128, .ref 129, .int u3, .ref 130, .int u4, .ref 131, .ref 132, .ref 133, .ref 134, .int u5, .ref 135, .ref 136, .ref 137, .ref 138, .ref 139, .ref 140, .ref 141, .ref 142, .int u6, .int u7, .int u8, .ref 143, .ref 144, .ref 145, .ref 146, .ref 147, .ref 148, .int u9, .ref 149, .ref 150, .ref 151, .int u10, .ref 152, .ref 153, .ref 154, .ref 155, .ref 156, .ref 157, .ref 158, .ref 159, .int u11, .ref 160, .int u12, .ref 161, .ref 162, .ref 163, .ref 164, .int u13, .ref 165, .ref 166]) kc_55_2 rfl rfl rfl A14 rfl rfl rfl (Nat.le_of_ble_eq_true rfl) rfl (fun hh16 eh15 => ?_)
  have K17 := xk_pf (k := 0) (v := 0) K (xk_wf rfl) xD_115 A14 rfl (by first | omega | decide) (by first | omega | decide) eh15 rfl
  refine xi_iload_n (pc' := 6) (x := x1) kc_55_5 rfl rfl ?_
  refine xi_iconst (pc' := 7) (v := 0) kc_55_6 rfl rfl ?_
  refine xi_bipush (pc' := 9) (v := 63) kc_55_7 rfl rfl ?_
  refine xi_static (mj := 11) (as := [.int x1, .int 0, .int 63]) (st1 := []) (lv0 := [(0, .int x1), (1, .int 0), (2, .int 63)]) kc_55_9 rfl rfl (Nat.le_of_ble_eq_true rfl) rfl rfl (Nat.le_of_ble_eq_true rfl) (hJ _ _ _ _ (by decide)) (xm_le ml_11 rfl) rfl ?_
  refine xi_iload_n (pc' := 1) (x := x1) kc_11_0 rfl rfl ?_
  refine xi_iload_n (pc' := 2) (x := 0) kc_11_1 rfl rfl ?_
  by_cases c18 : x1.toInt < 0
  · refine xi_cmt (pc' := 14) kc_11_2 rfl (xc_lt_t (X := x1.toInt) (Y := 0) rfl (by decide) (by omega)) ?_
    refine xi_iconst (pc' := 15) (v := 0) kc_11_14 rfl rfl ?_
    refine xi_ireturn kc_11_15 mr_11 rfl ?_
    show xw J ov (d + 1) 55 (12, [(0, .ref 115), (1, .int x1), (2, .int x2)], [.int 0], hh16) _
    refine xi_iff (pc' := 15) kc_55_12 rfl rfl ?_
    refine xi_aload_n (pc' := 16) (x := 115) kc_55_15 rfl rfl ?_
    refine xi_bipush (pc' := 18) (v := (-2)) kc_55_16 rfl rfl ?_
    refine xi_virtual (mj := 12) (as := [.int (-2)]) (st1 := []) (lv0 := [(0, .ref 115), (1, .int (-2))]) kc_55_18 rfl rfl rfl rfl rfl eh15.1 (Nat.le_of_ble_eq_true rfl) (hJ _ _ _ _ (by decide)) (xm_le ml_12 rfl) rfl ?_
    refine xi_aload_n (pc' := 1) (x := 115) kc_12_0 rfl rfl ?_
    refine xi_getfield (pc' := 4) (v := .ref 140) kc_12_1 rfl rfl rfl eh15.1 rfl ?_
    refine xi_iload_n (pc' := 5) (x := (-2)) kc_12_4 rfl rfl ?_
    refine xi_ineg (pc' := 6) (v := 2) kc_12_5 rfl rfl ?_
    refine xi_dup2 (pc' := 7) kc_12_6 rfl ⟨rfl, rfl⟩ ?_
    refine xcps4 (xk_arr K17.1 xD_140) (fun y19 A19 hy19 ry19 => ?_)
    refine xcps4 (xj_get hy19 ry19 (i := 2) (by decide) (by decide)) (fun v20 ev20 bv20 dv20 => ?_)
    refine xi_iaload (pc' := 8) (v := v20) kc_12_7 rfl A19 (by decide) rfl (xi_in (by decide) (by rw [hy19]; decide)) ev20 ?_
    refine xi_iconst (pc' := 9) (v := 1) kc_12_8 rfl rfl ?_
    refine xcps2 (α := Int32) ((v20 : Int32) + 1) (fun v21 ev21 => ?_)
    have rv21 := xc_rng v21
    refine xi_iadd (pc' := 10) (v := v21) kc_12_9 rfl ev21 ?_
    refine xcps4 (xj_set (v := v21) hy19 ry19 2 (by first | omega | decide) (by first | omega | decide)) (fun y22 s22 hy22 ry22 => ?_)
    refine xi_iastore (pc' := 11) (x' := y22) kc_12_10 rfl A19 rfl (xi_in (by decide) (by rw [hy19]; decide)) s22 (fun hh22 eh22 => ?_)
    have K23 := xk_pa K17 (xk_wa rfl) xD_140 hy22 ry22 eh22
    refine xi_iload_n (pc' := 12) (x := (-2)) kc_12_11 rfl rfl ?_
    refine xi_ireturn kc_12_12 mr_12 rfl ?_
    show xw J ov (d + 1) 55 (21, [(0, .ref 115), (1, .int x1), (2, .int x2)], [.int (-2)], hh22) _
    refine xi_ireturn kc_55_21 mr_55 rfl ?_
    have zcm2 : ((-2) : Int32).toInt = (-2) := by decide
    exact kk (-2) hh22 (by omega) K23
  · refine xi_cmf (pc' := 5) kc_11_2 rfl (xc_lt_f (X := x1.toInt) (Y := 0) rfl (by decide) (by omega)) ?_
    refine xi_iload_n (pc' := 6) (x := x1) kc_11_5 rfl rfl ?_
    refine xi_iload_n (pc' := 7) (x := 63) kc_11_6 rfl rfl ?_
    by_cases c24 : 63 < x1.toInt
    · refine xi_cmt (pc' := 14) kc_11_7 rfl (xc_gt_t (X := x1.toInt) (Y := 63) rfl (by decide) (by omega)) ?_
      refine xi_iconst (pc' := 15) (v := 0) kc_11_14 rfl rfl ?_
      refine xi_ireturn kc_11_15 mr_11 rfl ?_
      show xw J ov (d + 1) 55 (12, [(0, .ref 115), (1, .int x1), (2, .int x2)], [.int 0], hh16) _
      refine xi_iff (pc' := 15) kc_55_12 rfl rfl ?_
      refine xi_aload_n (pc' := 16) (x := 115) kc_55_15 rfl rfl ?_
      refine xi_bipush (pc' := 18) (v := (-2)) kc_55_16 rfl rfl ?_
      refine xi_virtual (mj := 12) (as := [.int (-2)]) (st1 := []) (lv0 := [(0, .ref 115), (1, .int (-2))]) kc_55_18 rfl rfl rfl rfl rfl eh15.1 (Nat.le_of_ble_eq_true rfl) (hJ _ _ _ _ (by decide)) (xm_le ml_12 rfl) rfl ?_
      refine xi_aload_n (pc' := 1) (x := 115) kc_12_0 rfl rfl ?_
      refine xi_getfield (pc' := 4) (v := .ref 140) kc_12_1 rfl rfl rfl eh15.1 rfl ?_
      refine xi_iload_n (pc' := 5) (x := (-2)) kc_12_4 rfl rfl ?_
      refine xi_ineg (pc' := 6) (v := 2) kc_12_5 rfl rfl ?_
      refine xi_dup2 (pc' := 7) kc_12_6 rfl ⟨rfl, rfl⟩ ?_
      refine xcps4 (xk_arr K17.1 xD_140) (fun y25 A25 hy25 ry25 => ?_)
      refine xcps4 (xj_get hy25 ry25 (i := 2) (by decide) (by decide)) (fun v26 ev26 bv26 dv26 => ?_)
      refine xi_iaload (pc' := 8) (v := v26) kc_12_7 rfl A25 (by decide) rfl (xi_in (by decide) (by rw [hy25]; decide)) ev26 ?_
      refine xi_iconst (pc' := 9) (v := 1) kc_12_8 rfl rfl ?_
      refine xcps2 (α := Int32) ((v26 : Int32) + 1) (fun v27 ev27 => ?_)
      have rv27 := xc_rng v27
      refine xi_iadd (pc' := 10) (v := v27) kc_12_9 rfl ev27 ?_
      refine xcps4 (xj_set (v := v27) hy25 ry25 2 (by first | omega | decide) (by first | omega | decide)) (fun y28 s28 hy28 ry28 => ?_)
      refine xi_iastore (pc' := 11) (x' := y28) kc_12_10 rfl A25 rfl (xi_in (by decide) (by rw [hy25]; decide)) s28 (fun hh28 eh28 => ?_)
      have K29 := xk_pa K17 (xk_wa rfl) xD_140 hy28 ry28 eh28
      refine xi_iload_n (pc' := 12) (x := (-2)) kc_12_11 rfl rfl ?_
      refine xi_ireturn kc_12_12 mr_12 rfl ?_
      show xw J ov (d + 1) 55 (21, [(0, .ref 115), (1, .int x1), (2, .int x2)], [.int (-2)], hh28) _
      refine xi_ireturn kc_55_21 mr_55 rfl ?_
      have zcm2 : ((-2) : Int32).toInt = (-2) := by decide
      exact kk (-2) hh28 (by omega) K29
    · refine xi_cmf (pc' := 10) kc_11_7 rfl (xc_gt_f (X := x1.toInt) (Y := 63) rfl (by decide) (by omega)) ?_
      refine xi_iconst (pc' := 11) (v := 1) kc_11_10 rfl rfl ?_
      refine xi_goto (pc' := 15) kc_11_11 rfl ?_
      refine xi_ireturn kc_11_15 mr_11 rfl ?_
      show xw J ov (d + 1) 55 (12, [(0, .ref 115), (1, .int x1), (2, .int x2)], [.int 1], hh16) _
      refine xi_ift (pc' := 22) kc_55_12 rfl rfl ?_
      refine xi_iload_n (pc' := 23) (x := x2) kc_55_22 rfl rfl ?_
      refine xi_iconst (pc' := 24) (v := 1) kc_55_23 rfl rfl ?_
      by_cases c30 : 1 ≤ x2.toInt
      · refine xi_cmt (pc' := 34) kc_55_24 rfl (xc_ge_t (X := x2.toInt) (Y := 1) rfl (by decide) (by omega)) ?_
        refine xi_iload_n (pc' := 35) (x := x2) kc_55_34 rfl rfl ?_
        refine xi_sipush (pc' := 38) (v := 999) kc_55_35 rfl rfl ?_
        by_cases c31 : 999 < x2.toInt
        · refine xi_cmt (pc' := 50) kc_55_38 rfl (xc_gt_t (X := x2.toInt) (Y := 999) rfl (by decide) (by omega)) ?_
          refine xi_aload_n (pc' := 51) (x := 115) kc_55_50 rfl rfl ?_
          refine xi_bipush (pc' := 53) (v := (-6)) kc_55_51 rfl rfl ?_
          refine xi_virtual (mj := 12) (as := [.int (-6)]) (st1 := []) (lv0 := [(0, .ref 115), (1, .int (-6))]) kc_55_53 rfl rfl rfl rfl rfl eh15.1 (Nat.le_of_ble_eq_true rfl) (hJ _ _ _ _ (by decide)) (xm_le ml_12 rfl) rfl ?_
          refine xi_aload_n (pc' := 1) (x := 115) kc_12_0 rfl rfl ?_
          refine xi_getfield (pc' := 4) (v := .ref 140) kc_12_1 rfl rfl rfl eh15.1 rfl ?_
          refine xi_iload_n (pc' := 5) (x := (-6)) kc_12_4 rfl rfl ?_
          refine xi_ineg (pc' := 6) (v := 6) kc_12_5 rfl rfl ?_
          refine xi_dup2 (pc' := 7) kc_12_6 rfl ⟨rfl, rfl⟩ ?_
          refine xcps4 (xk_arr K17.1 xD_140) (fun y32 A32 hy32 ry32 => ?_)
          refine xcps4 (xj_get hy32 ry32 (i := 6) (by decide) (by decide)) (fun v33 ev33 bv33 dv33 => ?_)
          refine xi_iaload (pc' := 8) (v := v33) kc_12_7 rfl A32 (by decide) rfl (xi_in (by decide) (by rw [hy32]; decide)) ev33 ?_
          refine xi_iconst (pc' := 9) (v := 1) kc_12_8 rfl rfl ?_
          refine xcps2 (α := Int32) ((v33 : Int32) + 1) (fun v34 ev34 => ?_)
          have rv34 := xc_rng v34
          refine xi_iadd (pc' := 10) (v := v34) kc_12_9 rfl ev34 ?_
          refine xcps4 (xj_set (v := v34) hy32 ry32 6 (by first | omega | decide) (by first | omega | decide)) (fun y35 s35 hy35 ry35 => ?_)
          refine xi_iastore (pc' := 11) (x' := y35) kc_12_10 rfl A32 rfl (xi_in (by decide) (by rw [hy32]; decide)) s35 (fun hh35 eh35 => ?_)
          have K36 := xk_pa K17 (xk_wa rfl) xD_140 hy35 ry35 eh35
          refine xi_iload_n (pc' := 12) (x := (-6)) kc_12_11 rfl rfl ?_
          refine xi_ireturn kc_12_12 mr_12 rfl ?_
          show xw J ov (d + 1) 55 (56, [(0, .ref 115), (1, .int x1), (2, .int x2)], [.int (-6)], hh35) _
          refine xi_ireturn kc_55_56 mr_55 rfl ?_
          have zcm6 : ((-6) : Int32).toInt = (-6) := by decide
          exact kk (-6) hh35 (by omega) K36
        · refine xi_cmf (pc' := 41) kc_55_38 rfl (xc_gt_f (X := x2.toInt) (Y := 999) rfl (by decide) (by omega)) ?_
          refine xi_aload_n (pc' := 42) (x := 115) kc_55_41 rfl rfl ?_
          refine xi_getfield (pc' := 45) (v := .int u10) kc_55_42 rfl rfl rfl eh15.1 rfl ?_
          refine xi_bipush (pc' := 47) (v := 8) kc_55_45 rfl rfl ?_
          by_cases c37 : u10.toInt = 8
          · refine xi_cmf (pc' := 50) kc_55_47 rfl (xc_ne_f (X := u10.toInt) (Y := 8) rfl (by decide) (by omega)) ?_
            refine xi_aload_n (pc' := 51) (x := 115) kc_55_50 rfl rfl ?_
            refine xi_bipush (pc' := 53) (v := (-6)) kc_55_51 rfl rfl ?_
            refine xi_virtual (mj := 12) (as := [.int (-6)]) (st1 := []) (lv0 := [(0, .ref 115), (1, .int (-6))]) kc_55_53 rfl rfl rfl rfl rfl eh15.1 (Nat.le_of_ble_eq_true rfl) (hJ _ _ _ _ (by decide)) (xm_le ml_12 rfl) rfl ?_
            refine xi_aload_n (pc' := 1) (x := 115) kc_12_0 rfl rfl ?_
            refine xi_getfield (pc' := 4) (v := .ref 140) kc_12_1 rfl rfl rfl eh15.1 rfl ?_
            refine xi_iload_n (pc' := 5) (x := (-6)) kc_12_4 rfl rfl ?_
            refine xi_ineg (pc' := 6) (v := 6) kc_12_5 rfl rfl ?_
            refine xi_dup2 (pc' := 7) kc_12_6 rfl ⟨rfl, rfl⟩ ?_
            refine xcps4 (xk_arr K17.1 xD_140) (fun y38 A38 hy38 ry38 => ?_)
            refine xcps4 (xj_get hy38 ry38 (i := 6) (by decide) (by decide)) (fun v39 ev39 bv39 dv39 => ?_)
            refine xi_iaload (pc' := 8) (v := v39) kc_12_7 rfl A38 (by decide) rfl (xi_in (by decide) (by rw [hy38]; decide)) ev39 ?_
            refine xi_iconst (pc' := 9) (v := 1) kc_12_8 rfl rfl ?_
            refine xcps2 (α := Int32) ((v39 : Int32) + 1) (fun v40 ev40 => ?_)
            have rv40 := xc_rng v40
            refine xi_iadd (pc' := 10) (v := v40) kc_12_9 rfl ev40 ?_
            refine xcps4 (xj_set (v := v40) hy38 ry38 6 (by first | omega | decide) (by first | omega | decide)) (fun y41 s41 hy41 ry41 => ?_)
            refine xi_iastore (pc' := 11) (x' := y41) kc_12_10 rfl A38 rfl (xi_in (by decide) (by rw [hy38]; decide)) s41 (fun hh41 eh41 => ?_)
            have K42 := xk_pa K17 (xk_wa rfl) xD_140 hy41 ry41 eh41
            refine xi_iload_n (pc' := 12) (x := (-6)) kc_12_11 rfl rfl ?_
            refine xi_ireturn kc_12_12 mr_12 rfl ?_
            show xw J ov (d + 1) 55 (56, [(0, .ref 115), (1, .int x1), (2, .int x2)], [.int (-6)], hh41) _
            refine xi_ireturn kc_55_56 mr_55 rfl ?_
            have zcm6 : ((-6) : Int32).toInt = (-6) := by decide
            exact kk (-6) hh41 (by omega) K42
          · refine xi_cmt (pc' := 57) kc_55_47 rfl (xc_ne_t (X := u10.toInt) (Y := 8) rfl (by decide) (by omega)) ?_
            refine xi_aload_n (pc' := 58) (x := 115) kc_55_57 rfl rfl ?_
            refine xi_getfield (pc' := 61) (v := .ref 152) kc_55_58 rfl rfl rfl eh15.1 rfl ?_
            refine xi_aload_n (pc' := 62) (x := 115) kc_55_61 rfl rfl ?_
            refine xi_getfield (pc' := 65) (v := .int u10) kc_55_62 rfl rfl rfl eh15.1 rfl ?_
            refine xi_iload_n (pc' := 66) (x := x1) kc_55_65 rfl rfl ?_
            refine xcps4 (xk_arr K17.1 xD_152) (fun y43 A43 hy43 ry43 => ?_)
            refine xcps4 (xj_set (v := x1) hy43 ry43 u10 (by first | omega | decide) (by first | omega | decide)) (fun y44 s44 hy44 ry44 => ?_)
            refine xi_iastore (pc' := 67) (x' := y44) kc_55_66 rfl A43 rfl (xi_in (by omega) (by rw [hy43]; omega)) s44 (fun hh44 eh44 => ?_)
            have K45 := xk_pa K17 (xk_wa rfl) xD_152 hy44 ry44 eh44
            refine xi_aload_n (pc' := 68) (x := 115) kc_55_67 rfl rfl ?_
            have A46 := ((eh44.2.1 115 (by decide)).trans eh15.1)
            refine xi_getfield (pc' := 71) (v := .ref 153) kc_55_68 rfl rfl rfl A46 rfl ?_
            refine xi_aload_n (pc' := 72) (x := 115) kc_55_71 rfl rfl ?_
            refine xi_getfield (pc' := 75) (v := .int u10) kc_55_72 rfl rfl rfl A46 rfl ?_
            refine xi_iload_n (pc' := 76) (x := x2) kc_55_75 rfl rfl ?_
            refine xcps4 (xk_arr K45.1 xD_153) (fun y47 A47 hy47 ry47 => ?_)
            refine xcps4 (xj_set (v := x2) hy47 ry47 u10 (by first | omega | decide) (by first | omega | decide)) (fun y48 s48 hy48 ry48 => ?_)
            refine xi_iastore (pc' := 77) (x' := y48) kc_55_76 rfl A47 rfl (xi_in (by omega) (by rw [hy47]; omega)) s48 (fun hh48 eh48 => ?_)
            have K49 := xk_pa K45 (xk_wa rfl) xD_153 hy48 ry48 eh48
            refine xi_aload_n (pc' := 78) (x := 115) kc_55_77 rfl rfl ?_
            have A50 := ((eh48.2.1 115 (by decide)).trans A46)
            refine xi_getfield (pc' := 81) (v := .ref 154) kc_55_78 rfl rfl rfl A50 rfl ?_
            refine xi_aload_n (pc' := 82) (x := 115) kc_55_81 rfl rfl ?_
            refine xi_getfield (pc' := 85) (v := .int u10) kc_55_82 rfl rfl rfl A50 rfl ?_
            refine xi_iconst (pc' := 86) (v := 0) kc_55_85 rfl rfl ?_
            refine xcps4 (xk_arr K49.1 xD_154) (fun y51 A51 hy51 ry51 => ?_)
            refine xcps4 (xj_set (v := 0) hy51 ry51 u10 (by first | omega | decide) (by first | omega | decide)) (fun y52 s52 hy52 ry52 => ?_)
            refine xi_iastore (pc' := 87) (x' := y52) kc_55_86 rfl A51 rfl (xi_in (by omega) (by rw [hy51]; omega)) s52 (fun hh52 eh52 => ?_)
            have K53 := xk_pa K49 (xk_wa rfl) xD_154 hy52 ry52 eh52
            refine xi_aload_n (pc' := 88) (x := 115) kc_55_87 rfl rfl ?_
            refine xi_dup (pc' := 89) kc_55_88 rfl rfl ?_
            have A54 := ((eh52.2.1 115 (by decide)).trans A50)
            refine xi_getfield (pc' := 92) (v := .int u10) kc_55_89 rfl rfl rfl A54 rfl ?_
            refine xi_iconst (pc' := 93) (v := 1) kc_55_92 rfl rfl ?_
            refine xcps2 (α := Int32) (u10 + 1) (fun v55 ev55 => ?_)
            have zv55 : v55.toInt = (u10.toInt + 1) := by rw [← ev55]; exact (xz_add (X := u10.toInt) (Y := 1) rfl (by decide) (by omega) (by omega)).trans (by omega)
            refine xi_iadd (pc' := 94) (v := v55) kc_55_93 rfl ev55 ?_
            refine xi_putfield (pc' := 97) (fs' := [.int 0, .int u2, .ref 116, .ref 117, .ref 118, .ref 119, .ref 120, .ref 121, .ref 122, .ref 123, .ref 124, .ref 125, .ref 126, .ref 127, .ref 128, .ref 129, .int u3, .ref 130, .int u4, .ref 131, .ref 132, .ref 133, .ref 134, .int u5, .ref 135, .ref 136, .ref 137, .ref 138, .ref 139, .ref 140, .ref 141, .ref 142, .int u6, .int u7, .int u8, .ref 143, .ref 144, .ref 145, .ref 146, .ref 147, .ref 148, .int u9, .ref 149, .ref 150, .ref 151, .int v55, .ref 152, .ref 153, .ref 154, .ref 155, .ref 156, .ref 157, .ref 158, .ref 159, .int u11, .ref 160, .int u12, .ref 161, .ref 162, .ref 163, .ref 164, .int u13, .ref 165, .ref 166]) kc_55_94 rfl rfl rfl A54 rfl rfl rfl (Nat.le_of_ble_eq_true rfl) rfl (fun hh57 eh56 => ?_)
            have K58 := xk_pf (k := 45) (v := v55) K53 (xk_wf rfl) xD_115 A54 rfl (by first | omega | decide) (by first | omega | decide) eh56 rfl
            refine xi_aload_n (pc' := 98) (x := 115) kc_55_97 rfl rfl ?_
            refine xi_getfield (pc' := 101) (v := .int v55) kc_55_98 rfl rfl rfl eh56.1 rfl ?_
            refine xi_iconst (pc' := 102) (v := 1) kc_55_101 rfl rfl ?_
            refine xcps2 (α := Int32) (v55 - 1) (fun v59 ev59 => ?_)
            have zv59 : v59.toInt = u10.toInt := by rw [← ev59]; exact (xz_sub (X := (u10.toInt + 1)) (Y := 1) zv55 (by decide) (by omega) (by omega)).trans (by omega)
            refine xi_isub (pc' := 103) (v := v59) kc_55_102 rfl ev59 ?_
            refine xi_ireturn kc_55_103 mr_55 rfl ?_
            exact kk v59 hh57 (by omega) K58
      · refine xi_cmf (pc' := 27) kc_55_24 rfl (xc_ge_f (X := x2.toInt) (Y := 1) rfl (by decide) (by omega)) ?_
        refine xi_aload_n (pc' := 28) (x := 115) kc_55_27 rfl rfl ?_
        refine xi_bipush (pc' := 30) (v := (-4)) kc_55_28 rfl rfl ?_
        refine xi_virtual (mj := 12) (as := [.int (-4)]) (st1 := []) (lv0 := [(0, .ref 115), (1, .int (-4))]) kc_55_30 rfl rfl rfl rfl rfl eh15.1 (Nat.le_of_ble_eq_true rfl) (hJ _ _ _ _ (by decide)) (xm_le ml_12 rfl) rfl ?_
        refine xi_aload_n (pc' := 1) (x := 115) kc_12_0 rfl rfl ?_
        refine xi_getfield (pc' := 4) (v := .ref 140) kc_12_1 rfl rfl rfl eh15.1 rfl ?_
        refine xi_iload_n (pc' := 5) (x := (-4)) kc_12_4 rfl rfl ?_
        refine xi_ineg (pc' := 6) (v := 4) kc_12_5 rfl rfl ?_
        refine xi_dup2 (pc' := 7) kc_12_6 rfl ⟨rfl, rfl⟩ ?_
        refine xcps4 (xk_arr K17.1 xD_140) (fun y60 A60 hy60 ry60 => ?_)
        refine xcps4 (xj_get hy60 ry60 (i := 4) (by decide) (by decide)) (fun v61 ev61 bv61 dv61 => ?_)
        refine xi_iaload (pc' := 8) (v := v61) kc_12_7 rfl A60 (by decide) rfl (xi_in (by decide) (by rw [hy60]; decide)) ev61 ?_
        refine xi_iconst (pc' := 9) (v := 1) kc_12_8 rfl rfl ?_
        refine xcps2 (α := Int32) ((v61 : Int32) + 1) (fun v62 ev62 => ?_)
        have rv62 := xc_rng v62
        refine xi_iadd (pc' := 10) (v := v62) kc_12_9 rfl ev62 ?_
        refine xcps4 (xj_set (v := v62) hy60 ry60 4 (by first | omega | decide) (by first | omega | decide)) (fun y63 s63 hy63 ry63 => ?_)
        refine xi_iastore (pc' := 11) (x' := y63) kc_12_10 rfl A60 rfl (xi_in (by decide) (by rw [hy60]; decide)) s63 (fun hh63 eh63 => ?_)
        have K64 := xk_pa K17 (xk_wa rfl) xD_140 hy63 ry63 eh63
        refine xi_iload_n (pc' := 12) (x := (-4)) kc_12_11 rfl rfl ?_
        refine xi_ireturn kc_12_12 mr_12 rfl ?_
        show xw J ov (d + 1) 55 (33, [(0, .ref 115), (1, .int x1), (2, .int x2)], [.int (-4)], hh63) _
        refine xi_ireturn kc_55_33 mr_55 rfl ?_
        have zcm4 : ((-4) : Int32).toInt = (-4) := by decide
        exact kk (-4) hh63 (by omega) K64
set_option maxHeartbeats 4000000 in
theorem mt_56_0 {J : xe_J} {ov : List (List Int32)} (hJ : ∀ d mj as h, mj ≠ xe_loff → J d mj as h = none) (hov1 : ov[1]? = some [10, 0, 0, 0, 0, 0]) (hov2 : ov[2]? = some [99, 30, 50, 50, 1, 99999]) {d : Nat} {Q : Option Value → xe_H → Prop} {h : xe_H} {x1 : Int32} {x2 : Int32} (T : xt h) (b2 : (0 ≤ x2.toInt ∧ x2.toInt ≤ 1)) (kk : (∀ (r : Int32) (h' : xe_H), xk [(0, 9), (115, 1), (83, 0), (29, 0), (31, 0), (33, 0), (35, 0), (37, 0), (39, 0), (41, 0), (43, 0), (45, 0), (47, 0), (49, 0), (51, 0), (125, 0), (29, 2), (31, 2), (33, 2), (35, 2), (37, 2), (39, 2), (41, 2), (43, 2), (45, 2), (47, 2), (49, 2), (51, 2), (127, 0), (1, 5), (115, 23)] h h' → Q (some (.int r)) h')) : xw J ov (d + 8) 56 (0, [(0, .ref 115), (1, .int x1), (2, .int x2)], [], h) Q := by
  have K : xk [(0, 9), (115, 1), (83, 0), (29, 0), (31, 0), (33, 0), (35, 0), (37, 0), (39, 0), (41, 0), (43, 0), (45, 0), (47, 0), (49, 0), (51, 0), (125, 0), (29, 2), (31, 2), (33, 2), (35, 2), (37, 2), (39, 2), (41, 2), (43, 2), (45, 2), (47, 2), (49, 2), (51, 2), (127, 0), (1, 5), (115, 23)] h h := xk_re T
  have rx1 := xc_rng x1
  refine xi_aload_n (pc' := 1) (x := 115) kc_56_0 rfl rfl ?_
  refine xi_iconst (pc' := 2) (v := 0) kc_56_1 rfl rfl ?_
  refine xp_115 K.1 (fun u1 u2 u3 u4 u5 u6 u7 u8 u9 u10 u11 u12 u13 bu1 bu2 bu3 bu4 bu5 bu6 bu7 bu8 bu9 bu10 bu11 bu12 bu13 A14 => ?_)
  refine xi_putfield (pc' := 5) (fs' := [.int 0, .int u2, .ref 116, .ref 117, .ref 118, .ref 119, .ref 120, .ref 121, .ref 122, .ref 123, .ref 124, .ref 125, .ref 126, .ref 127, .ref 128, .ref 129, .int u3, .ref 130, .int u4, .ref 131, .ref 132, .ref 133, .ref 134, .int u5, .ref 135, .ref 136, .ref 137, .ref 138, .ref 139, .ref 140, .ref 141, .ref 142, .int u6, .int u7, .int u8, .ref 143, .ref 144, .ref 145, .ref 146, .ref 147, .ref 148, .int u9, .ref 149, .ref 150, .ref 151, .int u10, .ref 152, .ref 153, .ref 154, .ref 155, .ref 156, .ref 157, .ref 158, .ref 159, .int u11, .ref 160, .int u12, .ref 161, .ref 162, .ref 163, .ref 164, .int u13, .ref 165, .ref 166]) kc_56_2 rfl rfl rfl A14 rfl rfl rfl (Nat.le_of_ble_eq_true rfl) rfl (fun hh16 eh15 => ?_)
  have K17 := xk_pf (k := 0) (v := 0) K (xk_wf rfl) xD_115 A14 rfl (by first | omega | decide) (by first | omega | decide) eh15 rfl
  refine xi_iload_n (pc' := 6) (x := x1) kc_56_5 rfl rfl ?_
  refine xi_iconst (pc' := 7) (v := 0) kc_56_6 rfl rfl ?_
  refine xi_aload_n (pc' := 8) (x := 115) kc_56_7 rfl rfl ?_
  refine xi_getfield (pc' := 11) (v := .int u10) kc_56_8 rfl rfl rfl eh15.1 rfl ?_
  refine xi_iconst (pc' := 12) (v := 1) kc_56_11 rfl rfl ?_
  refine xcps2 (α := Int32) (u10 - 1) (fun v18 ev18 => ?_)
  have zv18 : v18.toInt = (u10.toInt + (-1)) := by rw [← ev18]; exact (xz_sub (X := u10.toInt) (Y := 1) rfl (by decide) (by omega) (by omega)).trans (by omega)
  refine xi_isub (pc' := 13) (v := v18) kc_56_12 rfl ev18 ?_
  refine xi_static (mj := 11) (as := [.int x1, .int 0, .int v18]) (st1 := []) (lv0 := [(0, .int x1), (1, .int 0), (2, .int v18)]) kc_56_13 rfl rfl (Nat.le_of_ble_eq_true rfl) rfl rfl (Nat.le_of_ble_eq_true rfl) (hJ _ _ _ _ (by decide)) (xm_le ml_11 rfl) rfl ?_
  refine xi_iload_n (pc' := 1) (x := x1) kc_11_0 rfl rfl ?_
  refine xi_iload_n (pc' := 2) (x := 0) kc_11_1 rfl rfl ?_
  by_cases c19 : x1.toInt < 0
  · refine xi_cmt (pc' := 14) kc_11_2 rfl (xc_lt_t (X := x1.toInt) (Y := 0) rfl (by decide) (by omega)) ?_
    refine xi_iconst (pc' := 15) (v := 0) kc_11_14 rfl rfl ?_
    refine xi_ireturn kc_11_15 mr_11 rfl ?_
    show xw J ov (d + 8) 56 (16, [(0, .ref 115), (1, .int x1), (2, .int x2)], [.int 0], hh16) _
    refine xi_iff (pc' := 19) kc_56_16 rfl rfl ?_
    refine xi_aload_n (pc' := 20) (x := 115) kc_56_19 rfl rfl ?_
    refine xi_iconst (pc' := 21) (v := (-1)) kc_56_20 rfl rfl ?_
    refine xi_virtual (mj := 12) (as := [.int (-1)]) (st1 := []) (lv0 := [(0, .ref 115), (1, .int (-1))]) kc_56_21 rfl rfl rfl rfl rfl eh15.1 (Nat.le_of_ble_eq_true rfl) (hJ _ _ _ _ (by decide)) (xm_le ml_12 rfl) rfl ?_
    refine xi_aload_n (pc' := 1) (x := 115) kc_12_0 rfl rfl ?_
    refine xi_getfield (pc' := 4) (v := .ref 140) kc_12_1 rfl rfl rfl eh15.1 rfl ?_
    refine xi_iload_n (pc' := 5) (x := (-1)) kc_12_4 rfl rfl ?_
    refine xi_ineg (pc' := 6) (v := 1) kc_12_5 rfl rfl ?_
    refine xi_dup2 (pc' := 7) kc_12_6 rfl ⟨rfl, rfl⟩ ?_
    refine xcps4 (xk_arr K17.1 xD_140) (fun y20 A20 hy20 ry20 => ?_)
    refine xcps4 (xj_get hy20 ry20 (i := 1) (by decide) (by decide)) (fun v21 ev21 bv21 dv21 => ?_)
    refine xi_iaload (pc' := 8) (v := v21) kc_12_7 rfl A20 (by decide) rfl (xi_in (by decide) (by rw [hy20]; decide)) ev21 ?_
    refine xi_iconst (pc' := 9) (v := 1) kc_12_8 rfl rfl ?_
    refine xcps2 (α := Int32) ((v21 : Int32) + 1) (fun v22 ev22 => ?_)
    have rv22 := xc_rng v22
    refine xi_iadd (pc' := 10) (v := v22) kc_12_9 rfl ev22 ?_
    refine xcps4 (xj_set (v := v22) hy20 ry20 1 (by first | omega | decide) (by first | omega | decide)) (fun y23 s23 hy23 ry23 => ?_)
    refine xi_iastore (pc' := 11) (x' := y23) kc_12_10 rfl A20 rfl (xi_in (by decide) (by rw [hy20]; decide)) s23 (fun hh23 eh23 => ?_)
    have K24 := xk_pa K17 (xk_wa rfl) xD_140 hy23 ry23 eh23
    refine xi_iload_n (pc' := 12) (x := (-1)) kc_12_11 rfl rfl ?_
    refine xi_ireturn kc_12_12 mr_12 rfl ?_
    show xw J ov (d + 8) 56 (24, [(0, .ref 115), (1, .int x1), (2, .int x2)], [.int (-1)], hh23) _
    refine xi_ireturn kc_56_24 mr_56 rfl ?_
    have zcm1 : ((-1) : Int32).toInt = (-1) := by decide
    exact kk (-1) hh23 K24
  · refine xi_cmf (pc' := 5) kc_11_2 rfl (xc_lt_f (X := x1.toInt) (Y := 0) rfl (by decide) (by omega)) ?_
    refine xi_iload_n (pc' := 6) (x := x1) kc_11_5 rfl rfl ?_
    refine xi_iload_n (pc' := 7) (x := v18) kc_11_6 rfl rfl ?_
    by_cases c25 : (u10.toInt + (-1)) < x1.toInt
    · refine xi_cmt (pc' := 14) kc_11_7 rfl (xc_gt_t (X := x1.toInt) (Y := (u10.toInt + (-1))) rfl zv18 (by omega)) ?_
      refine xi_iconst (pc' := 15) (v := 0) kc_11_14 rfl rfl ?_
      refine xi_ireturn kc_11_15 mr_11 rfl ?_
      show xw J ov (d + 8) 56 (16, [(0, .ref 115), (1, .int x1), (2, .int x2)], [.int 0], hh16) _
      refine xi_iff (pc' := 19) kc_56_16 rfl rfl ?_
      refine xi_aload_n (pc' := 20) (x := 115) kc_56_19 rfl rfl ?_
      refine xi_iconst (pc' := 21) (v := (-1)) kc_56_20 rfl rfl ?_
      refine xi_virtual (mj := 12) (as := [.int (-1)]) (st1 := []) (lv0 := [(0, .ref 115), (1, .int (-1))]) kc_56_21 rfl rfl rfl rfl rfl eh15.1 (Nat.le_of_ble_eq_true rfl) (hJ _ _ _ _ (by decide)) (xm_le ml_12 rfl) rfl ?_
      refine xi_aload_n (pc' := 1) (x := 115) kc_12_0 rfl rfl ?_
      refine xi_getfield (pc' := 4) (v := .ref 140) kc_12_1 rfl rfl rfl eh15.1 rfl ?_
      refine xi_iload_n (pc' := 5) (x := (-1)) kc_12_4 rfl rfl ?_
      refine xi_ineg (pc' := 6) (v := 1) kc_12_5 rfl rfl ?_
      refine xi_dup2 (pc' := 7) kc_12_6 rfl ⟨rfl, rfl⟩ ?_
      refine xcps4 (xk_arr K17.1 xD_140) (fun y26 A26 hy26 ry26 => ?_)
      refine xcps4 (xj_get hy26 ry26 (i := 1) (by decide) (by decide)) (fun v27 ev27 bv27 dv27 => ?_)
      refine xi_iaload (pc' := 8) (v := v27) kc_12_7 rfl A26 (by decide) rfl (xi_in (by decide) (by rw [hy26]; decide)) ev27 ?_
      refine xi_iconst (pc' := 9) (v := 1) kc_12_8 rfl rfl ?_
      refine xcps2 (α := Int32) ((v27 : Int32) + 1) (fun v28 ev28 => ?_)
      have rv28 := xc_rng v28
      refine xi_iadd (pc' := 10) (v := v28) kc_12_9 rfl ev28 ?_
      refine xcps4 (xj_set (v := v28) hy26 ry26 1 (by first | omega | decide) (by first | omega | decide)) (fun y29 s29 hy29 ry29 => ?_)
      refine xi_iastore (pc' := 11) (x' := y29) kc_12_10 rfl A26 rfl (xi_in (by decide) (by rw [hy26]; decide)) s29 (fun hh29 eh29 => ?_)
      have K30 := xk_pa K17 (xk_wa rfl) xD_140 hy29 ry29 eh29
      refine xi_iload_n (pc' := 12) (x := (-1)) kc_12_11 rfl rfl ?_
      refine xi_ireturn kc_12_12 mr_12 rfl ?_
      show xw J ov (d + 8) 56 (24, [(0, .ref 115), (1, .int x1), (2, .int x2)], [.int (-1)], hh29) _
      refine xi_ireturn kc_56_24 mr_56 rfl ?_
      have zcm1 : ((-1) : Int32).toInt = (-1) := by decide
      exact kk (-1) hh29 K30
    · refine xi_cmf (pc' := 10) kc_11_7 rfl (xc_gt_f (X := x1.toInt) (Y := (u10.toInt + (-1))) rfl zv18 (by omega)) ?_
      refine xi_iconst (pc' := 11) (v := 1) kc_11_10 rfl rfl ?_
      refine xi_goto (pc' := 15) kc_11_11 rfl ?_
      refine xi_ireturn kc_11_15 mr_11 rfl ?_
      show xw J ov (d + 8) 56 (16, [(0, .ref 115), (1, .int x1), (2, .int x2)], [.int 1], hh16) _
      refine xi_ift (pc' := 25) kc_56_16 rfl rfl ?_
      refine xi_aload_n (pc' := 26) (x := 115) kc_56_25 rfl rfl ?_
      refine xi_getfield (pc' := 29) (v := .ref 154) kc_56_26 rfl rfl rfl eh15.1 rfl ?_
      refine xi_iload_n (pc' := 30) (x := x1) kc_56_29 rfl rfl ?_
      refine xcps4 (xk_arr K17.1 xD_154) (fun y31 A31 hy31 ry31 => ?_)
      refine xcps4 (xj_get hy31 ry31 (i := x1) (by omega) (by omega)) (fun v32 ev32 bv32 dv32 => ?_)
      refine xi_iaload (pc' := 31) (v := v32) kc_56_30 rfl A31 (by decide) rfl (xi_in (by omega) (by rw [hy31]; omega)) ev32 ?_
      by_cases c33 : v32.toInt = 0
      · refine xi_ift (pc' := 41) kc_56_31 rfl (xc_eq_t (X := v32.toInt) (Y := 0) rfl (by decide) (by omega)) ?_
        refine xi_aload_n (pc' := 42) (x := 115) kc_56_41 rfl rfl ?_
        refine xi_getfield (pc' := 45) (v := .ref 154) kc_56_42 rfl rfl rfl eh15.1 rfl ?_
        refine xi_iload_n (pc' := 46) (x := x1) kc_56_45 rfl rfl ?_
        refine xi_iload_n (pc' := 47) (x := x2) kc_56_46 rfl rfl ?_
        by_cases c34 : x2.toInt = 0
        · refine xi_ift (pc' := 54) kc_56_47 rfl (xc_eq_t (X := x2.toInt) (Y := 0) rfl (by decide) (by omega)) ?_
          refine xi_iconst (pc' := 55) (v := 2) kc_56_54 rfl rfl ?_
          refine xcps4 (xj_set (v := 2) hy31 ry31 x1 (by first | omega | decide) (by first | omega | decide)) (fun y35 s35 hy35 ry35 => ?_)
          refine xi_iastore (pc' := 56) (x' := y35) kc_56_55 rfl A31 rfl (xi_in (by omega) (by rw [hy31]; omega)) s35 (fun hh35 eh35 => ?_)
          have K36 := xk_pa K17 (xk_wa rfl) xD_154 hy35 ry35 eh35
          refine xi_aload_n (pc' := 57) (x := 115) kc_56_56 rfl rfl ?_
          have A37 := ((eh35.2.1 115 (by decide)).trans eh15.1)
          refine xi_virtual (mj := 52) (as := []) (st1 := []) (lv0 := [(0, .ref 115)]) kc_56_57 rfl rfl rfl rfl rfl A37 (Nat.le_of_ble_eq_true rfl) (hJ _ _ _ _ (by decide)) (xm_le ml_52 rfl) rfl ?_
          refine mt_52_0 hJ hov1 hov2 (d := d)  K36.1 (fun r38 hh39 K40 => ?_)
          have br38 := xc_rng r38
          have K41 := xk_tr K36 K40 rfl
          refine xp_115 K41.1 (fun u42 u43 u44 u45 u46 u47 u48 u49 u50 u51 u52 u53 u54 bu42 bu43 bu44 bu45 bu46 bu47 bu48 bu49 bu50 bu51 bu52 bu53 bu54 A55 => ?_)
          have e56 : u2 = u43 := xk_eqi (q := 1) K40 rfl A37 A55 rfl rfl
          subst e56
          have e57 : u5 = u46 := xk_eqi (q := 23) K40 rfl A37 A55 rfl rfl
          subst e57
          show xw J ov (d + 8) 56 (60, [(0, .ref 115), (1, .int x1), (2, .int x2)], [.int r38], hh39) _
          refine xi_ireturn kc_56_60 mr_56 rfl ?_
          exact kk r38 hh39 K41
        · refine xi_iff (pc' := 50) kc_56_47 rfl (xc_eq_f (X := x2.toInt) (Y := 0) rfl (by decide) (by omega)) ?_
          refine xi_iconst (pc' := 51) (v := 1) kc_56_50 rfl rfl ?_
          refine xi_goto (pc' := 55) kc_56_51 rfl ?_
          refine xcps4 (xj_set (v := 1) hy31 ry31 x1 (by first | omega | decide) (by first | omega | decide)) (fun y58 s58 hy58 ry58 => ?_)
          refine xi_iastore (pc' := 56) (x' := y58) kc_56_55 rfl A31 rfl (xi_in (by omega) (by rw [hy31]; omega)) s58 (fun hh58 eh58 => ?_)
          have K59 := xk_pa K17 (xk_wa rfl) xD_154 hy58 ry58 eh58
          refine xi_aload_n (pc' := 57) (x := 115) kc_56_56 rfl rfl ?_
          have A60 := ((eh58.2.1 115 (by decide)).trans eh15.1)
          refine xi_virtual (mj := 52) (as := []) (st1 := []) (lv0 := [(0, .ref 115)]) kc_56_57 rfl rfl rfl rfl rfl A60 (Nat.le_of_ble_eq_true rfl) (hJ _ _ _ _ (by decide)) (xm_le ml_52 rfl) rfl ?_
          refine mt_52_0 hJ hov1 hov2 (d := d)  K59.1 (fun r61 hh62 K63 => ?_)
          have br61 := xc_rng r61
          have K64 := xk_tr K59 K63 rfl
          refine xp_115 K64.1 (fun u65 u66 u67 u68 u69 u70 u71 u72 u73 u74 u75 u76 u77 bu65 bu66 bu67 bu68 bu69 bu70 bu71 bu72 bu73 bu74 bu75 bu76 bu77 A78 => ?_)
          have e79 : u2 = u66 := xk_eqi (q := 1) K63 rfl A60 A78 rfl rfl
          subst e79
          have e80 : u5 = u69 := xk_eqi (q := 23) K63 rfl A60 A78 rfl rfl
          subst e80
          show xw J ov (d + 8) 56 (60, [(0, .ref 115), (1, .int x1), (2, .int x2)], [.int r61], hh62) _
          refine xi_ireturn kc_56_60 mr_56 rfl ?_
          exact kk r61 hh62 K64
      · refine xi_iff (pc' := 34) kc_56_31 rfl (xc_eq_f (X := v32.toInt) (Y := 0) rfl (by decide) (by omega)) ?_
        refine xi_aload_n (pc' := 35) (x := 115) kc_56_34 rfl rfl ?_
        refine xi_bipush (pc' := 37) (v := (-3)) kc_56_35 rfl rfl ?_
        refine xi_virtual (mj := 12) (as := [.int (-3)]) (st1 := []) (lv0 := [(0, .ref 115), (1, .int (-3))]) kc_56_37 rfl rfl rfl rfl rfl eh15.1 (Nat.le_of_ble_eq_true rfl) (hJ _ _ _ _ (by decide)) (xm_le ml_12 rfl) rfl ?_
        refine xi_aload_n (pc' := 1) (x := 115) kc_12_0 rfl rfl ?_
        refine xi_getfield (pc' := 4) (v := .ref 140) kc_12_1 rfl rfl rfl eh15.1 rfl ?_
        refine xi_iload_n (pc' := 5) (x := (-3)) kc_12_4 rfl rfl ?_
        refine xi_ineg (pc' := 6) (v := 3) kc_12_5 rfl rfl ?_
        refine xi_dup2 (pc' := 7) kc_12_6 rfl ⟨rfl, rfl⟩ ?_
        refine xcps4 (xk_arr K17.1 xD_140) (fun y81 A81 hy81 ry81 => ?_)
        refine xcps4 (xj_get hy81 ry81 (i := 3) (by decide) (by decide)) (fun v82 ev82 bv82 dv82 => ?_)
        refine xi_iaload (pc' := 8) (v := v82) kc_12_7 rfl A81 (by decide) rfl (xi_in (by decide) (by rw [hy81]; decide)) ev82 ?_
        refine xi_iconst (pc' := 9) (v := 1) kc_12_8 rfl rfl ?_
        refine xcps2 (α := Int32) ((v82 : Int32) + 1) (fun v83 ev83 => ?_)
        have rv83 := xc_rng v83
        refine xi_iadd (pc' := 10) (v := v83) kc_12_9 rfl ev83 ?_
        refine xcps4 (xj_set (v := v83) hy81 ry81 3 (by first | omega | decide) (by first | omega | decide)) (fun y84 s84 hy84 ry84 => ?_)
        refine xi_iastore (pc' := 11) (x' := y84) kc_12_10 rfl A81 rfl (xi_in (by decide) (by rw [hy81]; decide)) s84 (fun hh84 eh84 => ?_)
        have K85 := xk_pa K17 (xk_wa rfl) xD_140 hy84 ry84 eh84
        refine xi_iload_n (pc' := 12) (x := (-3)) kc_12_11 rfl rfl ?_
        refine xi_ireturn kc_12_12 mr_12 rfl ?_
        show xw J ov (d + 8) 56 (40, [(0, .ref 115), (1, .int x1), (2, .int x2)], [.int (-3)], hh84) _
        refine xi_ireturn kc_56_40 mr_56 rfl ?_
        have zcm3 : ((-3) : Int32).toInt = (-3) := by decide
        exact kk (-3) hh84 K85
set_option maxHeartbeats 4000000 in
theorem lp_57_0 {J : xe_J} {ov : List (List Int32)} (hJ : ∀ d mj as h, mj ≠ xe_loff → J d mj as h = none) (hov1 : ov[1]? = some [10, 0, 0, 0, 0, 0]) (hov2 : ov[2]? = some [99, 30, 50, 50, 1, 99999]) {d : Nat} {Q : Option Value → xe_H → Prop} {hb : xe_H} (kk : (∀ (r : Int32) (h' : xe_H), ((-9) ≤ r.toInt ∧ r.toInt ≤ 7) → xk [(0, 9), (115, 1), (83, 0), (29, 0), (31, 0), (33, 0), (35, 0), (37, 0), (39, 0), (41, 0), (43, 0), (45, 0), (47, 0), (49, 0), (51, 0), (125, 0), (29, 2), (31, 2), (33, 2), (35, 2), (37, 2), (39, 2), (41, 2), (43, 2), (45, 2), (47, 2), (49, 2), (51, 2), (127, 0), (1, 5), (115, 23)] hb h' → Q (some (.int r)) h')) : ∀ m : Nat, (∀ (x1 : Int32) (x2 : Int32) (x3 : Int32) (x4 : Int32) (h : xe_H), ((-9) ≤ x2.toInt ∧ x2.toInt ≤ 7) → (0 ≤ x4.toInt ∧ x4.toInt ≤ 8) → xk [(0, 9), (115, 1), (83, 0), (29, 0), (31, 0), (33, 0), (35, 0), (37, 0), (39, 0), (41, 0), (43, 0), (45, 0), (47, 0), (49, 0), (51, 0), (125, 0), (29, 2), (31, 2), (33, 2), (35, 2), (37, 2), (39, 2), (41, 2), (43, 2), (45, 2), (47, 2), (49, 2), (51, 2), (127, 0), (1, 5), (115, 23)] hb h → (-66) * x4.toInt + 593 < (m : Int) → xw J ov (d + 8) 57 (18, [(0, .ref 115), (1, .int x1), (2, .int x2), (3, .int x3), (4, .int x4)], [], h) Q) ∧ (∀ (x1 : Int32) (x2 : Int32) (x3 : Int32) (x4 : Int32) (x5 : Int32) (x6 : Int32) (h : xe_H), (1 ≤ x1.toInt ∧ x1.toInt ≤ 2147483647) → ((-9) ≤ x2.toInt ∧ x2.toInt ≤ 7) → (0 ≤ x4.toInt ∧ x4.toInt ≤ 7) → (0 ≤ x6.toInt ∧ x6.toInt ≤ 64) → xk [(0, 9), (115, 1), (83, 0), (29, 0), (31, 0), (33, 0), (35, 0), (37, 0), (39, 0), (41, 0), (43, 0), (45, 0), (47, 0), (49, 0), (51, 0), (125, 0), (29, 2), (31, 2), (33, 2), (35, 2), (37, 2), (39, 2), (41, 2), (43, 2), (45, 2), (47, 2), (49, 2), (51, 2), (127, 0), (1, 5), (115, 23)] hb h → (-66) * x4.toInt + (-1) * x6.toInt + 592 < (m : Int) → xw J ov (d + 8) 57 (37, [(0, .ref 115), (1, .int x1), (2, .int x2), (3, .int x3), (4, .int x4), (5, .int x5), (6, .int x6)], [], h) Q) := by
  intro m
  induction m with
  | zero =>
    refine ⟨?_, ?_⟩
    · intro x1 x2 x3 x4 h b2 b4 K hm; have rx1 := xc_rng x1; have rx3 := xc_rng x3; exfalso; omega
    · intro x1 x2 x3 x4 x5 x6 h b1 b2 b4 b6 K hm; have rx3 := xc_rng x3; have rx5 := xc_rng x5; exfalso; omega
  | succ m ih =>
    obtain ⟨i0, i1⟩ := ih
    refine ⟨?_, ?_⟩
    · intro x1 x2 x3 x4 h b2 b4 K hm
      have rx1 := xc_rng x1
      have rx3 := xc_rng x3
      refine xi_iload (pc' := 20) (x := x4) kc_57_18 rfl rfl ?_
      refine xi_aload_n (pc' := 21) (x := 115) kc_57_20 rfl rfl ?_
      refine xp_115 K.1 (fun u1 u2 u3 u4 u5 u6 u7 u8 u9 u10 u11 u12 u13 bu1 bu2 bu3 bu4 bu5 bu6 bu7 bu8 bu9 bu10 bu11 bu12 bu13 A14 => ?_)
      refine xi_getfield (pc' := 24) (v := .int u10) kc_57_21 rfl rfl rfl A14 rfl ?_
      by_cases c15 : u10.toInt ≤ x4.toInt
      · refine xi_cmt (pc' := 143) kc_57_24 rfl (xc_ge_t (X := x4.toInt) (Y := u10.toInt) rfl rfl (by omega)) ?_
        refine xi_iload_n (pc' := 144) (x := x2) kc_57_143 rfl rfl ?_
        refine xi_ireturn kc_57_144 mr_57 rfl ?_
        exact kk x2 h (by omega) K
      · refine xi_cmf (pc' := 27) kc_57_24 rfl (xc_ge_f (X := x4.toInt) (Y := u10.toInt) rfl rfl (by omega)) ?_
        refine xi_iload_n (pc' := 28) (x := x1) kc_57_27 rfl rfl ?_
        by_cases c16 : x1.toInt ≤ 0
        · refine xi_ift (pc' := 143) kc_57_28 rfl (xc_le_t (X := x1.toInt) (Y := 0) rfl (by decide) (by omega)) ?_
          refine xi_iload_n (pc' := 144) (x := x2) kc_57_143 rfl rfl ?_
          refine xi_ireturn kc_57_144 mr_57 rfl ?_
          exact kk x2 h (by omega) K
        · refine xi_iff (pc' := 31) kc_57_28 rfl (xc_le_f (X := x1.toInt) (Y := 0) rfl (by decide) (by omega)) ?_
          refine xi_iconst (pc' := 32) (v := 0) kc_57_31 rfl rfl ?_
          refine xi_istore (pc' := 34) (lv' := [(5, .int 0), (0, .ref 115), (1, .int x1), (2, .int x2), (3, .int x3), (4, .int x4)]) kc_57_32 rfl rfl (xm_lt ml_57 rfl) ?_
          refine xi_iconst (pc' := 35) (v := 0) kc_57_34 rfl rfl ?_
          refine xi_istore (pc' := 37) (lv' := [(6, .int 0), (5, .int 0), (0, .ref 115), (1, .int x1), (2, .int x2), (3, .int x3), (4, .int x4)]) kc_57_35 rfl rfl (xm_lt ml_57 rfl) ?_
          have zc0 : (0 : Int32).toInt = 0 := by decide
          refine xw_lv (b := [(0, .ref 115), (1, .int x1), (2, .int x2), (3, .int x3), (4, .int x4), (5, .int 0), (6, .int 0)]) (lvS_cons (lvS_cons (lvS_cons (lvS_cons (lvS_cons (lvS_cons (lvS_cons (lvS_nil (show ([6, 5, 0, 1, 2, 3, 4] : List Nat).Nodup by decide)) rfl) rfl) rfl) rfl) rfl) rfl) rfl) ?_
          exact i1 x1 x2 x3 x4 0 0 h (by omega) (by omega) (by omega) (by omega) K (by omega)
    · intro x1 x2 x3 x4 x5 x6 h b1 b2 b4 b6 K hm
      have rx3 := xc_rng x3
      have rx5 := xc_rng x5
      refine xi_iload (pc' := 39) (x := x6) kc_57_37 rfl rfl ?_
      refine xi_aload_n (pc' := 40) (x := 115) kc_57_39 rfl rfl ?_
      refine xp_115 K.1 (fun u1 u2 u3 u4 u5 u6 u7 u8 u9 u10 u11 u12 u13 bu1 bu2 bu3 bu4 bu5 bu6 bu7 bu8 bu9 bu10 bu11 bu12 bu13 A14 => ?_)
      refine xi_virtual (mj := 42) (as := []) (st1 := [.int x6]) (lv0 := [(0, .ref 115)]) kc_57_40 rfl rfl rfl rfl rfl A14 (Nat.le_of_ble_eq_true rfl) (hJ _ _ _ _ (by decide)) (xm_le ml_42 rfl) rfl ?_
      refine xi_iconst (pc' := 1) (v := 1) kc_42_0 rfl rfl ?_
      refine xi_aload_n (pc' := 2) (x := 115) kc_42_1 rfl rfl ?_
      refine xi_getfield (pc' := 5) (v := .int u5) kc_42_2 rfl rfl rfl A14 rfl ?_
      refine xi_bipush (pc' := 7) (v := 6) kc_42_5 rfl rfl ?_
      by_cases c15 : 6 ≤ u5.toInt
      · refine xi_cmt (pc' := 17) kc_42_7 rfl (xc_ge_t (X := u5.toInt) (Y := 6) rfl (by decide) (by omega)) ?_
        refine xi_bipush (pc' := 19) (v := 6) kc_42_17 rfl rfl ?_
        refine xi_ishl (pc' := 20) (v := 64) kc_42_19 rfl rfl ?_
        refine xi_ireturn kc_42_20 mr_42 rfl ?_
        show xw J ov (d + 8) 57 (43, [(0, .ref 115), (1, .int x1), (2, .int x2), (3, .int x3), (4, .int x4), (5, .int x5), (6, .int x6)], [.int 64, .int x6], h) _
        by_cases c16 : 64 ≤ x6.toInt
        · refine xi_cmt (pc' := 83) kc_57_43 rfl (xc_ge_t (X := x6.toInt) (Y := 64) rfl (by decide) (by omega)) ?_
          refine xi_aload_n (pc' := 84) (x := 115) kc_57_83 rfl rfl ?_
          refine xi_getfield (pc' := 87) (v := .ref 153) kc_57_84 rfl rfl rfl A14 rfl ?_
          refine xi_iload (pc' := 89) (x := x4) kc_57_87 rfl rfl ?_
          refine xcps4 (xk_arr K.1 xD_153) (fun y17 A17 hy17 ry17 => ?_)
          refine xcps4 (xj_get hy17 ry17 (i := x4) (by omega) (by omega)) (fun v18 ev18 bv18 dv18 => ?_)
          refine xi_iaload (pc' := 90) (v := v18) kc_57_89 rfl A17 (by decide) rfl (xi_in (by omega) (by rw [hy17]; omega)) ev18 ?_
          refine xi_iload (pc' := 92) (x := x5) kc_57_90 rfl rfl ?_
          refine xi_iload_n (pc' := 93) (x := x1) kc_57_92 rfl rfl ?_
          refine xi_iload (pc' := 95) (x := x5) kc_57_93 rfl rfl ?_
          refine xcps2 (α := Int32) ((x1 : Int32) - x5) (fun v19 ev19 => ?_)
          have rv19 := xc_rng v19
          refine xi_isub (pc' := 96) (v := v19) kc_57_95 rfl ev19 ?_
          by_cases c20 : x5.toInt ≤ v19.toInt
          · refine xi_cmt (pc' := 104) kc_57_96 rfl (xc_le_t (X := x5.toInt) (Y := v19.toInt) rfl rfl (by omega)) ?_
            refine xi_iload_n (pc' := 105) (x := x1) kc_57_104 rfl rfl ?_
            refine xi_iload (pc' := 107) (x := x5) kc_57_105 rfl rfl ?_
            refine xi_isub (pc' := 108) (v := v19) kc_57_107 rfl ev19 ?_
            refine xcps2 (α := Int32) ((v18 : Int32) * v19) (fun v21 ev21 => ?_)
            have rv21 := xc_rng v21
            refine xi_imul (pc' := 109) (v := v21) kc_57_108 rfl ev21 ?_
            refine xi_istore (pc' := 111) (lv' := [(6, .int v21), (0, .ref 115), (1, .int x1), (2, .int x2), (3, .int x3), (4, .int x4), (5, .int x5)]) kc_57_109 rfl rfl (xm_lt ml_57 rfl) ?_
            refine xi_aload_n (pc' := 112) (x := 115) kc_57_111 rfl rfl ?_
            refine xi_getfield (pc' := 115) (v := .ref 154) kc_57_112 rfl rfl rfl A14 rfl ?_
            refine xi_iload (pc' := 117) (x := x4) kc_57_115 rfl rfl ?_
            refine xcps4 (xk_arr K.1 xD_154) (fun y22 A22 hy22 ry22 => ?_)
            refine xcps4 (xj_get hy22 ry22 (i := x4) (by omega) (by omega)) (fun v23 ev23 bv23 dv23 => ?_)
            refine xi_iaload (pc' := 118) (v := v23) kc_57_117 rfl A22 (by decide) rfl (xi_in (by omega) (by rw [hy22]; omega)) ev23 ?_
            by_cases c24 : v23.toInt = 0
            · refine xi_iff (pc' := 121) kc_57_118 rfl (xc_ne_f (X := v23.toInt) (Y := 0) rfl (by decide) (by omega)) ?_
              refine xi_iload_n (pc' := 122) (x := x2) kc_57_121 rfl rfl ?_
              by_cases c25 : x2.toInt < 0
              · refine xi_ift (pc' := 131) kc_57_122 rfl (xc_lt_t (X := x2.toInt) (Y := 0) rfl (by decide) (by omega)) ?_
                refine xi_iload (pc' := 133) (x := x4) kc_57_131 rfl rfl ?_
                refine xi_istore_n (pc' := 134) (lv' := [(2, .int x4), (6, .int v21), (0, .ref 115), (1, .int x1), (3, .int x3), (4, .int x4), (5, .int x5)]) kc_57_133 rfl rfl (xm_lt ml_57 rfl) ?_
                refine xi_iload (pc' := 136) (x := v21) kc_57_134 rfl rfl ?_
                refine xi_istore_n (pc' := 137) (lv' := [(3, .int v21), (2, .int x4), (6, .int v21), (0, .ref 115), (1, .int x1), (4, .int x4), (5, .int x5)]) kc_57_136 rfl rfl (xm_lt ml_57 rfl) ?_
                refine xcps2 (α := Int32) (x4 + 1) (fun v26 ev26 => ?_)
                have zv26 : v26.toInt = (x4.toInt + 1) := by rw [← ev26]; exact (xz_add (X := x4.toInt) (Y := 1) rfl (by decide) (by omega) (by omega)).trans (by omega)
                refine xi_iinc (pc' := 140) (x := x4) (v := v26) (lv' := [(4, .int v26), (3, .int v21), (2, .int x4), (6, .int v21), (0, .ref 115), (1, .int x1), (5, .int x5)]) kc_57_137 rfl rfl ev26 rfl (xm_lt ml_57 rfl) ?_
                refine xi_goto (pc' := 18) kc_57_140 rfl ?_
                refine xw_lv (b := [(0, .ref 115), (1, .int x1), (2, .int x4), (3, .int v21), (4, .int v26)]) (lvS_cons (lvS_cons (lvS_cons (lvS_cons (lvS_cons (lvS_nil (show ([4, 3, 2, 6, 0, 1, 5] : List Nat).Nodup by decide)) rfl) rfl) rfl) rfl) rfl) ?_
                exact i0 x1 x4 v21 v26 h (by omega) (by omega) K (by omega)
              · refine xi_iff (pc' := 125) kc_57_122 rfl (xc_lt_f (X := x2.toInt) (Y := 0) rfl (by decide) (by omega)) ?_
                refine xi_iload (pc' := 127) (x := v21) kc_57_125 rfl rfl ?_
                refine xi_iload_n (pc' := 128) (x := x3) kc_57_127 rfl rfl ?_
                by_cases c27 : x3.toInt ≤ v21.toInt
                · refine xi_cmt (pc' := 137) kc_57_128 rfl (xc_ge_t (X := v21.toInt) (Y := x3.toInt) rfl rfl (by omega)) ?_
                  refine xcps2 (α := Int32) (x4 + 1) (fun v28 ev28 => ?_)
                  have zv28 : v28.toInt = (x4.toInt + 1) := by rw [← ev28]; exact (xz_add (X := x4.toInt) (Y := 1) rfl (by decide) (by omega) (by omega)).trans (by omega)
                  refine xi_iinc (pc' := 140) (x := x4) (v := v28) (lv' := [(4, .int v28), (6, .int v21), (0, .ref 115), (1, .int x1), (2, .int x2), (3, .int x3), (5, .int x5)]) kc_57_137 rfl rfl ev28 rfl (xm_lt ml_57 rfl) ?_
                  refine xi_goto (pc' := 18) kc_57_140 rfl ?_
                  refine xw_lv (b := [(0, .ref 115), (1, .int x1), (2, .int x2), (3, .int x3), (4, .int v28)]) (lvS_cons (lvS_cons (lvS_cons (lvS_cons (lvS_cons (lvS_nil (show ([4, 6, 0, 1, 2, 3, 5] : List Nat).Nodup by decide)) rfl) rfl) rfl) rfl) rfl) ?_
                  exact i0 x1 x2 x3 v28 h (by omega) (by omega) K (by omega)
                · refine xi_cmf (pc' := 131) kc_57_128 rfl (xc_ge_f (X := v21.toInt) (Y := x3.toInt) rfl rfl (by omega)) ?_
                  refine xi_iload (pc' := 133) (x := x4) kc_57_131 rfl rfl ?_
                  refine xi_istore_n (pc' := 134) (lv' := [(2, .int x4), (6, .int v21), (0, .ref 115), (1, .int x1), (3, .int x3), (4, .int x4), (5, .int x5)]) kc_57_133 rfl rfl (xm_lt ml_57 rfl) ?_
                  refine xi_iload (pc' := 136) (x := v21) kc_57_134 rfl rfl ?_
                  refine xi_istore_n (pc' := 137) (lv' := [(3, .int v21), (2, .int x4), (6, .int v21), (0, .ref 115), (1, .int x1), (4, .int x4), (5, .int x5)]) kc_57_136 rfl rfl (xm_lt ml_57 rfl) ?_
                  refine xcps2 (α := Int32) (x4 + 1) (fun v29 ev29 => ?_)
                  have zv29 : v29.toInt = (x4.toInt + 1) := by rw [← ev29]; exact (xz_add (X := x4.toInt) (Y := 1) rfl (by decide) (by omega) (by omega)).trans (by omega)
                  refine xi_iinc (pc' := 140) (x := x4) (v := v29) (lv' := [(4, .int v29), (3, .int v21), (2, .int x4), (6, .int v21), (0, .ref 115), (1, .int x1), (5, .int x5)]) kc_57_137 rfl rfl ev29 rfl (xm_lt ml_57 rfl) ?_
                  refine xi_goto (pc' := 18) kc_57_140 rfl ?_
                  refine xw_lv (b := [(0, .ref 115), (1, .int x1), (2, .int x4), (3, .int v21), (4, .int v29)]) (lvS_cons (lvS_cons (lvS_cons (lvS_cons (lvS_cons (lvS_nil (show ([4, 3, 2, 6, 0, 1, 5] : List Nat).Nodup by decide)) rfl) rfl) rfl) rfl) rfl) ?_
                  exact i0 x1 x4 v21 v29 h (by omega) (by omega) K (by omega)
            · refine xi_ift (pc' := 137) kc_57_118 rfl (xc_ne_t (X := v23.toInt) (Y := 0) rfl (by decide) (by omega)) ?_
              refine xcps2 (α := Int32) (x4 + 1) (fun v30 ev30 => ?_)
              have zv30 : v30.toInt = (x4.toInt + 1) := by rw [← ev30]; exact (xz_add (X := x4.toInt) (Y := 1) rfl (by decide) (by omega) (by omega)).trans (by omega)
              refine xi_iinc (pc' := 140) (x := x4) (v := v30) (lv' := [(4, .int v30), (6, .int v21), (0, .ref 115), (1, .int x1), (2, .int x2), (3, .int x3), (5, .int x5)]) kc_57_137 rfl rfl ev30 rfl (xm_lt ml_57 rfl) ?_
              refine xi_goto (pc' := 18) kc_57_140 rfl ?_
              refine xw_lv (b := [(0, .ref 115), (1, .int x1), (2, .int x2), (3, .int x3), (4, .int v30)]) (lvS_cons (lvS_cons (lvS_cons (lvS_cons (lvS_cons (lvS_nil (show ([4, 6, 0, 1, 2, 3, 5] : List Nat).Nodup by decide)) rfl) rfl) rfl) rfl) rfl) ?_
              exact i0 x1 x2 x3 v30 h (by omega) (by omega) K (by omega)
          · refine xi_cmf (pc' := 99) kc_57_96 rfl (xc_le_f (X := x5.toInt) (Y := v19.toInt) rfl rfl (by omega)) ?_
            refine xi_iload (pc' := 101) (x := x5) kc_57_99 rfl rfl ?_
            refine xi_goto (pc' := 108) kc_57_101 rfl ?_
            refine xcps2 (α := Int32) ((v18 : Int32) * x5) (fun v31 ev31 => ?_)
            have rv31 := xc_rng v31
            refine xi_imul (pc' := 109) (v := v31) kc_57_108 rfl ev31 ?_
            refine xi_istore (pc' := 111) (lv' := [(6, .int v31), (0, .ref 115), (1, .int x1), (2, .int x2), (3, .int x3), (4, .int x4), (5, .int x5)]) kc_57_109 rfl rfl (xm_lt ml_57 rfl) ?_
            refine xi_aload_n (pc' := 112) (x := 115) kc_57_111 rfl rfl ?_
            refine xi_getfield (pc' := 115) (v := .ref 154) kc_57_112 rfl rfl rfl A14 rfl ?_
            refine xi_iload (pc' := 117) (x := x4) kc_57_115 rfl rfl ?_
            refine xcps4 (xk_arr K.1 xD_154) (fun y32 A32 hy32 ry32 => ?_)
            refine xcps4 (xj_get hy32 ry32 (i := x4) (by omega) (by omega)) (fun v33 ev33 bv33 dv33 => ?_)
            refine xi_iaload (pc' := 118) (v := v33) kc_57_117 rfl A32 (by decide) rfl (xi_in (by omega) (by rw [hy32]; omega)) ev33 ?_
            by_cases c34 : v33.toInt = 0
            · refine xi_iff (pc' := 121) kc_57_118 rfl (xc_ne_f (X := v33.toInt) (Y := 0) rfl (by decide) (by omega)) ?_
              refine xi_iload_n (pc' := 122) (x := x2) kc_57_121 rfl rfl ?_
              by_cases c35 : x2.toInt < 0
              · refine xi_ift (pc' := 131) kc_57_122 rfl (xc_lt_t (X := x2.toInt) (Y := 0) rfl (by decide) (by omega)) ?_
                refine xi_iload (pc' := 133) (x := x4) kc_57_131 rfl rfl ?_
                refine xi_istore_n (pc' := 134) (lv' := [(2, .int x4), (6, .int v31), (0, .ref 115), (1, .int x1), (3, .int x3), (4, .int x4), (5, .int x5)]) kc_57_133 rfl rfl (xm_lt ml_57 rfl) ?_
                refine xi_iload (pc' := 136) (x := v31) kc_57_134 rfl rfl ?_
                refine xi_istore_n (pc' := 137) (lv' := [(3, .int v31), (2, .int x4), (6, .int v31), (0, .ref 115), (1, .int x1), (4, .int x4), (5, .int x5)]) kc_57_136 rfl rfl (xm_lt ml_57 rfl) ?_
                refine xcps2 (α := Int32) (x4 + 1) (fun v36 ev36 => ?_)
                have zv36 : v36.toInt = (x4.toInt + 1) := by rw [← ev36]; exact (xz_add (X := x4.toInt) (Y := 1) rfl (by decide) (by omega) (by omega)).trans (by omega)
                refine xi_iinc (pc' := 140) (x := x4) (v := v36) (lv' := [(4, .int v36), (3, .int v31), (2, .int x4), (6, .int v31), (0, .ref 115), (1, .int x1), (5, .int x5)]) kc_57_137 rfl rfl ev36 rfl (xm_lt ml_57 rfl) ?_
                refine xi_goto (pc' := 18) kc_57_140 rfl ?_
                refine xw_lv (b := [(0, .ref 115), (1, .int x1), (2, .int x4), (3, .int v31), (4, .int v36)]) (lvS_cons (lvS_cons (lvS_cons (lvS_cons (lvS_cons (lvS_nil (show ([4, 3, 2, 6, 0, 1, 5] : List Nat).Nodup by decide)) rfl) rfl) rfl) rfl) rfl) ?_
                exact i0 x1 x4 v31 v36 h (by omega) (by omega) K (by omega)
              · refine xi_iff (pc' := 125) kc_57_122 rfl (xc_lt_f (X := x2.toInt) (Y := 0) rfl (by decide) (by omega)) ?_
                refine xi_iload (pc' := 127) (x := v31) kc_57_125 rfl rfl ?_
                refine xi_iload_n (pc' := 128) (x := x3) kc_57_127 rfl rfl ?_
                by_cases c37 : x3.toInt ≤ v31.toInt
                · refine xi_cmt (pc' := 137) kc_57_128 rfl (xc_ge_t (X := v31.toInt) (Y := x3.toInt) rfl rfl (by omega)) ?_
                  refine xcps2 (α := Int32) (x4 + 1) (fun v38 ev38 => ?_)
                  have zv38 : v38.toInt = (x4.toInt + 1) := by rw [← ev38]; exact (xz_add (X := x4.toInt) (Y := 1) rfl (by decide) (by omega) (by omega)).trans (by omega)
                  refine xi_iinc (pc' := 140) (x := x4) (v := v38) (lv' := [(4, .int v38), (6, .int v31), (0, .ref 115), (1, .int x1), (2, .int x2), (3, .int x3), (5, .int x5)]) kc_57_137 rfl rfl ev38 rfl (xm_lt ml_57 rfl) ?_
                  refine xi_goto (pc' := 18) kc_57_140 rfl ?_
                  refine xw_lv (b := [(0, .ref 115), (1, .int x1), (2, .int x2), (3, .int x3), (4, .int v38)]) (lvS_cons (lvS_cons (lvS_cons (lvS_cons (lvS_cons (lvS_nil (show ([4, 6, 0, 1, 2, 3, 5] : List Nat).Nodup by decide)) rfl) rfl) rfl) rfl) rfl) ?_
                  exact i0 x1 x2 x3 v38 h (by omega) (by omega) K (by omega)
                · refine xi_cmf (pc' := 131) kc_57_128 rfl (xc_ge_f (X := v31.toInt) (Y := x3.toInt) rfl rfl (by omega)) ?_
                  refine xi_iload (pc' := 133) (x := x4) kc_57_131 rfl rfl ?_
                  refine xi_istore_n (pc' := 134) (lv' := [(2, .int x4), (6, .int v31), (0, .ref 115), (1, .int x1), (3, .int x3), (4, .int x4), (5, .int x5)]) kc_57_133 rfl rfl (xm_lt ml_57 rfl) ?_
                  refine xi_iload (pc' := 136) (x := v31) kc_57_134 rfl rfl ?_
                  refine xi_istore_n (pc' := 137) (lv' := [(3, .int v31), (2, .int x4), (6, .int v31), (0, .ref 115), (1, .int x1), (4, .int x4), (5, .int x5)]) kc_57_136 rfl rfl (xm_lt ml_57 rfl) ?_
                  refine xcps2 (α := Int32) (x4 + 1) (fun v39 ev39 => ?_)
                  have zv39 : v39.toInt = (x4.toInt + 1) := by rw [← ev39]; exact (xz_add (X := x4.toInt) (Y := 1) rfl (by decide) (by omega) (by omega)).trans (by omega)
                  refine xi_iinc (pc' := 140) (x := x4) (v := v39) (lv' := [(4, .int v39), (3, .int v31), (2, .int x4), (6, .int v31), (0, .ref 115), (1, .int x1), (5, .int x5)]) kc_57_137 rfl rfl ev39 rfl (xm_lt ml_57 rfl) ?_
                  refine xi_goto (pc' := 18) kc_57_140 rfl ?_
                  refine xw_lv (b := [(0, .ref 115), (1, .int x1), (2, .int x4), (3, .int v31), (4, .int v39)]) (lvS_cons (lvS_cons (lvS_cons (lvS_cons (lvS_cons (lvS_nil (show ([4, 3, 2, 6, 0, 1, 5] : List Nat).Nodup by decide)) rfl) rfl) rfl) rfl) rfl) ?_
                  exact i0 x1 x4 v31 v39 h (by omega) (by omega) K (by omega)
            · refine xi_ift (pc' := 137) kc_57_118 rfl (xc_ne_t (X := v33.toInt) (Y := 0) rfl (by decide) (by omega)) ?_
              refine xcps2 (α := Int32) (x4 + 1) (fun v40 ev40 => ?_)
              have zv40 : v40.toInt = (x4.toInt + 1) := by rw [← ev40]; exact (xz_add (X := x4.toInt) (Y := 1) rfl (by decide) (by omega) (by omega)).trans (by omega)
              refine xi_iinc (pc' := 140) (x := x4) (v := v40) (lv' := [(4, .int v40), (6, .int v31), (0, .ref 115), (1, .int x1), (2, .int x2), (3, .int x3), (5, .int x5)]) kc_57_137 rfl rfl ev40 rfl (xm_lt ml_57 rfl) ?_
              refine xi_goto (pc' := 18) kc_57_140 rfl ?_
              refine xw_lv (b := [(0, .ref 115), (1, .int x1), (2, .int x2), (3, .int x3), (4, .int v40)]) (lvS_cons (lvS_cons (lvS_cons (lvS_cons (lvS_cons (lvS_nil (show ([4, 6, 0, 1, 2, 3, 5] : List Nat).Nodup by decide)) rfl) rfl) rfl) rfl) rfl) ?_
              exact i0 x1 x2 x3 v40 h (by omega) (by omega) K (by omega)
        · refine xi_cmf (pc' := 46) kc_57_43 rfl (xc_ge_f (X := x6.toInt) (Y := 64) rfl (by decide) (by omega)) ?_
          refine xi_iload (pc' := 48) (x := x5) kc_57_46 rfl rfl ?_
          refine xi_aload_n (pc' := 49) (x := 115) kc_57_48 rfl rfl ?_
          refine xi_iload (pc' := 51) (x := x6) kc_57_49 rfl rfl ?_
          refine xi_virtual (mj := 53) (as := [.int x6]) (st1 := [.int x5]) (lv0 := [(0, .ref 115), (1, .int x6)]) kc_57_51 rfl rfl rfl rfl rfl A14 (Nat.le_of_ble_eq_true rfl) (hJ _ _ _ _ (by decide)) (xm_le ml_53 rfl) rfl ?_
          refine mt_53_0 hJ hov1 hov2 (d := d + 6) (x1 := x6) K.1 (by first | omega | decide) (fun r41 hh42 br41 K43 => ?_)
          have K44 := xk_tr K K43 rfl
          refine xp_115 K44.1 (fun u45 u46 u47 u48 u49 u50 u51 u52 u53 u54 u55 u56 u57 bu45 bu46 bu47 bu48 bu49 bu50 bu51 bu52 bu53 bu54 bu55 bu56 bu57 A58 => ?_)
          have e59 : u2 = u46 := xk_eqi (q := 1) K43 rfl A14 A58 rfl rfl
          subst e59
          have e60 : u5 = u49 := xk_eqi (q := 23) K43 rfl A14 A58 rfl rfl
          subst e60
          show xw J ov (d + 8) 57 (54, [(0, .ref 115), (1, .int x1), (2, .int x2), (3, .int x3), (4, .int x4), (5, .int x5), (6, .int x6)], [.int r41, .int x5], hh42) _
          by_cases c61 : r41.toInt = 0
          · refine xi_ift (pc' := 73) kc_57_54 rfl (xc_eq_t (X := r41.toInt) (Y := 0) rfl (by decide) (by omega)) ?_
            refine xi_iconst (pc' := 74) (v := 0) kc_57_73 rfl rfl ?_
            refine xcps2 (α := Int32) (x5 + 0) (fun v62 ev62 => ?_)
            have zv62 : v62.toInt = x5.toInt := by rw [← ev62]; exact (xz_add (X := x5.toInt) (Y := 0) rfl (by decide) (by omega) (by omega)).trans (by omega)
            refine xi_iadd (pc' := 75) (v := v62) kc_57_74 rfl ev62 ?_
            refine xi_istore (pc' := 77) (lv' := [(5, .int v62), (0, .ref 115), (1, .int x1), (2, .int x2), (3, .int x3), (4, .int x4), (6, .int x6)]) kc_57_75 rfl rfl (xm_lt ml_57 rfl) ?_
            refine xcps2 (α := Int32) (x6 + 1) (fun v63 ev63 => ?_)
            have zv63 : v63.toInt = (x6.toInt + 1) := by rw [← ev63]; exact (xz_add (X := x6.toInt) (Y := 1) rfl (by decide) (by omega) (by omega)).trans (by omega)
            refine xi_iinc (pc' := 80) (x := x6) (v := v63) (lv' := [(6, .int v63), (5, .int v62), (0, .ref 115), (1, .int x1), (2, .int x2), (3, .int x3), (4, .int x4)]) kc_57_77 rfl rfl ev63 rfl (xm_lt ml_57 rfl) ?_
            refine xi_goto (pc' := 37) kc_57_80 rfl ?_
            refine xw_lv (b := [(0, .ref 115), (1, .int x1), (2, .int x2), (3, .int x3), (4, .int x4), (5, .int v62), (6, .int v63)]) (lvS_cons (lvS_cons (lvS_cons (lvS_cons (lvS_cons (lvS_cons (lvS_cons (lvS_nil (show ([6, 5, 0, 1, 2, 3, 4] : List Nat).Nodup by decide)) rfl) rfl) rfl) rfl) rfl) rfl) rfl) ?_
            exact i1 x1 x2 x3 x4 v62 v63 hh42 (by omega) (by omega) (by omega) (by omega) K44 (by omega)
          · refine xi_iff (pc' := 57) kc_57_54 rfl (xc_eq_f (X := r41.toInt) (Y := 0) rfl (by decide) (by omega)) ?_
            refine xi_aload_n (pc' := 58) (x := 115) kc_57_57 rfl rfl ?_
            refine xi_iload (pc' := 60) (x := x4) kc_57_58 rfl rfl ?_
            refine xi_iload (pc' := 62) (x := x6) kc_57_60 rfl rfl ?_
            refine xi_virtual (mj := 54) (as := [.int x4, .int x6]) (st1 := [.int x5]) (lv0 := [(0, .ref 115), (1, .int x4), (2, .int x6)]) kc_57_62 rfl rfl rfl rfl rfl A58 (Nat.le_of_ble_eq_true rfl) (hJ _ _ _ _ (by decide)) (xm_le ml_54 rfl) rfl ?_
            refine xi_aload_n (pc' := 1) (x := 115) kc_54_0 rfl rfl ?_
            refine xi_getfield (pc' := 4) (v := .ref 152) kc_54_1 rfl rfl rfl A58 rfl ?_
            refine xi_iload_n (pc' := 5) (x := x4) kc_54_4 rfl rfl ?_
            refine xcps4 (xk_arr K44.1 xD_152) (fun y64 A64 hy64 ry64 => ?_)
            refine xcps4 (xj_get hy64 ry64 (i := x4) (by omega) (by omega)) (fun v65 ev65 bv65 dv65 => ?_)
            refine xi_iaload (pc' := 6) (v := v65) kc_54_5 rfl A64 (by decide) rfl (xi_in (by omega) (by rw [hy64]; omega)) ev65 ?_
            refine xi_iload_n (pc' := 7) (x := x6) kc_54_6 rfl rfl ?_
            refine xcps2 (α := Int32) ((v65 : Int32) &&& x6) (fun v66 ev66 => ?_)
            have rv66 := xc_rng v66
            refine xi_iand (pc' := 8) (v := v66) kc_54_7 rfl ev66 ?_
            by_cases c67 : v66.toInt = 0
            · refine xi_ift (pc' := 15) kc_54_8 rfl (xc_eq_t (X := v66.toInt) (Y := 0) rfl (by decide) (by omega)) ?_
              refine xi_iconst (pc' := 16) (v := 2) kc_54_15 rfl rfl ?_
              refine xi_ireturn kc_54_16 mr_54 rfl ?_
              show xw J ov (d + 8) 57 (65, [(0, .ref 115), (1, .int x1), (2, .int x2), (3, .int x3), (4, .int x4), (5, .int x5), (6, .int x6)], [.int 2, .int x5], hh42) _
              refine xi_iconst (pc' := 66) (v := 1) kc_57_65 rfl rfl ?_
              refine xi_cmt (pc' := 73) kc_57_66 rfl rfl ?_
              refine xi_iconst (pc' := 74) (v := 0) kc_57_73 rfl rfl ?_
              refine xcps2 (α := Int32) (x5 + 0) (fun v68 ev68 => ?_)
              have zv68 : v68.toInt = x5.toInt := by rw [← ev68]; exact (xz_add (X := x5.toInt) (Y := 0) rfl (by decide) (by omega) (by omega)).trans (by omega)
              refine xi_iadd (pc' := 75) (v := v68) kc_57_74 rfl ev68 ?_
              refine xi_istore (pc' := 77) (lv' := [(5, .int v68), (0, .ref 115), (1, .int x1), (2, .int x2), (3, .int x3), (4, .int x4), (6, .int x6)]) kc_57_75 rfl rfl (xm_lt ml_57 rfl) ?_
              refine xcps2 (α := Int32) (x6 + 1) (fun v69 ev69 => ?_)
              have zv69 : v69.toInt = (x6.toInt + 1) := by rw [← ev69]; exact (xz_add (X := x6.toInt) (Y := 1) rfl (by decide) (by omega) (by omega)).trans (by omega)
              refine xi_iinc (pc' := 80) (x := x6) (v := v69) (lv' := [(6, .int v69), (5, .int v68), (0, .ref 115), (1, .int x1), (2, .int x2), (3, .int x3), (4, .int x4)]) kc_57_77 rfl rfl ev69 rfl (xm_lt ml_57 rfl) ?_
              refine xi_goto (pc' := 37) kc_57_80 rfl ?_
              refine xw_lv (b := [(0, .ref 115), (1, .int x1), (2, .int x2), (3, .int x3), (4, .int x4), (5, .int v68), (6, .int v69)]) (lvS_cons (lvS_cons (lvS_cons (lvS_cons (lvS_cons (lvS_cons (lvS_cons (lvS_nil (show ([6, 5, 0, 1, 2, 3, 4] : List Nat).Nodup by decide)) rfl) rfl) rfl) rfl) rfl) rfl) rfl) ?_
              exact i1 x1 x2 x3 x4 v68 v69 hh42 (by omega) (by omega) (by omega) (by omega) K44 (by omega)
            · refine xi_iff (pc' := 11) kc_54_8 rfl (xc_eq_f (X := v66.toInt) (Y := 0) rfl (by decide) (by omega)) ?_
              refine xi_iconst (pc' := 12) (v := 1) kc_54_11 rfl rfl ?_
              refine xi_goto (pc' := 16) kc_54_12 rfl ?_
              refine xi_ireturn kc_54_16 mr_54 rfl ?_
              show xw J ov (d + 8) 57 (65, [(0, .ref 115), (1, .int x1), (2, .int x2), (3, .int x3), (4, .int x4), (5, .int x5), (6, .int x6)], [.int 1, .int x5], hh42) _
              refine xi_iconst (pc' := 66) (v := 1) kc_57_65 rfl rfl ?_
              refine xi_cmf (pc' := 69) kc_57_66 rfl rfl ?_
              refine xi_iconst (pc' := 70) (v := 1) kc_57_69 rfl rfl ?_
              refine xi_goto (pc' := 74) kc_57_70 rfl ?_
              refine xcps2 (α := Int32) ((x5 : Int32) + 1) (fun v70 ev70 => ?_)
              have rv70 := xc_rng v70
              refine xi_iadd (pc' := 75) (v := v70) kc_57_74 rfl ev70 ?_
              refine xi_istore (pc' := 77) (lv' := [(5, .int v70), (0, .ref 115), (1, .int x1), (2, .int x2), (3, .int x3), (4, .int x4), (6, .int x6)]) kc_57_75 rfl rfl (xm_lt ml_57 rfl) ?_
              refine xcps2 (α := Int32) (x6 + 1) (fun v71 ev71 => ?_)
              have zv71 : v71.toInt = (x6.toInt + 1) := by rw [← ev71]; exact (xz_add (X := x6.toInt) (Y := 1) rfl (by decide) (by omega) (by omega)).trans (by omega)
              refine xi_iinc (pc' := 80) (x := x6) (v := v71) (lv' := [(6, .int v71), (5, .int v70), (0, .ref 115), (1, .int x1), (2, .int x2), (3, .int x3), (4, .int x4)]) kc_57_77 rfl rfl ev71 rfl (xm_lt ml_57 rfl) ?_
              refine xi_goto (pc' := 37) kc_57_80 rfl ?_
              refine xw_lv (b := [(0, .ref 115), (1, .int x1), (2, .int x2), (3, .int x3), (4, .int x4), (5, .int v70), (6, .int v71)]) (lvS_cons (lvS_cons (lvS_cons (lvS_cons (lvS_cons (lvS_cons (lvS_cons (lvS_nil (show ([6, 5, 0, 1, 2, 3, 4] : List Nat).Nodup by decide)) rfl) rfl) rfl) rfl) rfl) rfl) rfl) ?_
              exact i1 x1 x2 x3 x4 v70 v71 hh42 (by omega) (by omega) (by omega) (by omega) K44 (by omega)
      · refine xi_cmf (pc' := 10) kc_42_7 rfl (xc_ge_f (X := u5.toInt) (Y := 6) rfl (by decide) (by omega)) ?_
        refine xi_aload_n (pc' := 11) (x := 115) kc_42_10 rfl rfl ?_
        refine xi_getfield (pc' := 14) (v := .int u5) kc_42_11 rfl rfl rfl A14 rfl ?_
        refine xi_goto (pc' := 19) kc_42_14 rfl ?_
        refine xcps2 (α := Int32) ((1 : Int32) <<< (u5 &&& 31)) (fun v72 ev72 => ?_)
        have rv72 := xc_rng v72
        have bv72 : 1 ≤ v72.toInt ∧ v72.toInt ≤ 64 := by rw [← ev72]; exact xj_shl6 (by omega) (by omega)
        refine xi_ishl (pc' := 20) (v := v72) kc_42_19 rfl ev72 ?_
        refine xi_ireturn kc_42_20 mr_42 rfl ?_
        show xw J ov (d + 8) 57 (43, [(0, .ref 115), (1, .int x1), (2, .int x2), (3, .int x3), (4, .int x4), (5, .int x5), (6, .int x6)], [.int v72, .int x6], h) _
        by_cases c73 : v72.toInt ≤ x6.toInt
        · refine xi_cmt (pc' := 83) kc_57_43 rfl (xc_ge_t (X := x6.toInt) (Y := v72.toInt) rfl rfl (by omega)) ?_
          refine xi_aload_n (pc' := 84) (x := 115) kc_57_83 rfl rfl ?_
          refine xi_getfield (pc' := 87) (v := .ref 153) kc_57_84 rfl rfl rfl A14 rfl ?_
          refine xi_iload (pc' := 89) (x := x4) kc_57_87 rfl rfl ?_
          refine xcps4 (xk_arr K.1 xD_153) (fun y74 A74 hy74 ry74 => ?_)
          refine xcps4 (xj_get hy74 ry74 (i := x4) (by omega) (by omega)) (fun v75 ev75 bv75 dv75 => ?_)
          refine xi_iaload (pc' := 90) (v := v75) kc_57_89 rfl A74 (by decide) rfl (xi_in (by omega) (by rw [hy74]; omega)) ev75 ?_
          refine xi_iload (pc' := 92) (x := x5) kc_57_90 rfl rfl ?_
          refine xi_iload_n (pc' := 93) (x := x1) kc_57_92 rfl rfl ?_
          refine xi_iload (pc' := 95) (x := x5) kc_57_93 rfl rfl ?_
          refine xcps2 (α := Int32) ((x1 : Int32) - x5) (fun v76 ev76 => ?_)
          have rv76 := xc_rng v76
          refine xi_isub (pc' := 96) (v := v76) kc_57_95 rfl ev76 ?_
          by_cases c77 : x5.toInt ≤ v76.toInt
          · refine xi_cmt (pc' := 104) kc_57_96 rfl (xc_le_t (X := x5.toInt) (Y := v76.toInt) rfl rfl (by omega)) ?_
            refine xi_iload_n (pc' := 105) (x := x1) kc_57_104 rfl rfl ?_
            refine xi_iload (pc' := 107) (x := x5) kc_57_105 rfl rfl ?_
            refine xi_isub (pc' := 108) (v := v76) kc_57_107 rfl ev76 ?_
            refine xcps2 (α := Int32) ((v75 : Int32) * v76) (fun v78 ev78 => ?_)
            have rv78 := xc_rng v78
            refine xi_imul (pc' := 109) (v := v78) kc_57_108 rfl ev78 ?_
            refine xi_istore (pc' := 111) (lv' := [(6, .int v78), (0, .ref 115), (1, .int x1), (2, .int x2), (3, .int x3), (4, .int x4), (5, .int x5)]) kc_57_109 rfl rfl (xm_lt ml_57 rfl) ?_
            refine xi_aload_n (pc' := 112) (x := 115) kc_57_111 rfl rfl ?_
            refine xi_getfield (pc' := 115) (v := .ref 154) kc_57_112 rfl rfl rfl A14 rfl ?_
            refine xi_iload (pc' := 117) (x := x4) kc_57_115 rfl rfl ?_
            refine xcps4 (xk_arr K.1 xD_154) (fun y79 A79 hy79 ry79 => ?_)
            refine xcps4 (xj_get hy79 ry79 (i := x4) (by omega) (by omega)) (fun v80 ev80 bv80 dv80 => ?_)
            refine xi_iaload (pc' := 118) (v := v80) kc_57_117 rfl A79 (by decide) rfl (xi_in (by omega) (by rw [hy79]; omega)) ev80 ?_
            by_cases c81 : v80.toInt = 0
            · refine xi_iff (pc' := 121) kc_57_118 rfl (xc_ne_f (X := v80.toInt) (Y := 0) rfl (by decide) (by omega)) ?_
              refine xi_iload_n (pc' := 122) (x := x2) kc_57_121 rfl rfl ?_
              by_cases c82 : x2.toInt < 0
              · refine xi_ift (pc' := 131) kc_57_122 rfl (xc_lt_t (X := x2.toInt) (Y := 0) rfl (by decide) (by omega)) ?_
                refine xi_iload (pc' := 133) (x := x4) kc_57_131 rfl rfl ?_
                refine xi_istore_n (pc' := 134) (lv' := [(2, .int x4), (6, .int v78), (0, .ref 115), (1, .int x1), (3, .int x3), (4, .int x4), (5, .int x5)]) kc_57_133 rfl rfl (xm_lt ml_57 rfl) ?_
                refine xi_iload (pc' := 136) (x := v78) kc_57_134 rfl rfl ?_
                refine xi_istore_n (pc' := 137) (lv' := [(3, .int v78), (2, .int x4), (6, .int v78), (0, .ref 115), (1, .int x1), (4, .int x4), (5, .int x5)]) kc_57_136 rfl rfl (xm_lt ml_57 rfl) ?_
                refine xcps2 (α := Int32) (x4 + 1) (fun v83 ev83 => ?_)
                have zv83 : v83.toInt = (x4.toInt + 1) := by rw [← ev83]; exact (xz_add (X := x4.toInt) (Y := 1) rfl (by decide) (by omega) (by omega)).trans (by omega)
                refine xi_iinc (pc' := 140) (x := x4) (v := v83) (lv' := [(4, .int v83), (3, .int v78), (2, .int x4), (6, .int v78), (0, .ref 115), (1, .int x1), (5, .int x5)]) kc_57_137 rfl rfl ev83 rfl (xm_lt ml_57 rfl) ?_
                refine xi_goto (pc' := 18) kc_57_140 rfl ?_
                refine xw_lv (b := [(0, .ref 115), (1, .int x1), (2, .int x4), (3, .int v78), (4, .int v83)]) (lvS_cons (lvS_cons (lvS_cons (lvS_cons (lvS_cons (lvS_nil (show ([4, 3, 2, 6, 0, 1, 5] : List Nat).Nodup by decide)) rfl) rfl) rfl) rfl) rfl) ?_
                exact i0 x1 x4 v78 v83 h (by omega) (by omega) K (by omega)
              · refine xi_iff (pc' := 125) kc_57_122 rfl (xc_lt_f (X := x2.toInt) (Y := 0) rfl (by decide) (by omega)) ?_
                refine xi_iload (pc' := 127) (x := v78) kc_57_125 rfl rfl ?_
                refine xi_iload_n (pc' := 128) (x := x3) kc_57_127 rfl rfl ?_
                by_cases c84 : x3.toInt ≤ v78.toInt
                · refine xi_cmt (pc' := 137) kc_57_128 rfl (xc_ge_t (X := v78.toInt) (Y := x3.toInt) rfl rfl (by omega)) ?_
                  refine xcps2 (α := Int32) (x4 + 1) (fun v85 ev85 => ?_)
                  have zv85 : v85.toInt = (x4.toInt + 1) := by rw [← ev85]; exact (xz_add (X := x4.toInt) (Y := 1) rfl (by decide) (by omega) (by omega)).trans (by omega)
                  refine xi_iinc (pc' := 140) (x := x4) (v := v85) (lv' := [(4, .int v85), (6, .int v78), (0, .ref 115), (1, .int x1), (2, .int x2), (3, .int x3), (5, .int x5)]) kc_57_137 rfl rfl ev85 rfl (xm_lt ml_57 rfl) ?_
                  refine xi_goto (pc' := 18) kc_57_140 rfl ?_
                  refine xw_lv (b := [(0, .ref 115), (1, .int x1), (2, .int x2), (3, .int x3), (4, .int v85)]) (lvS_cons (lvS_cons (lvS_cons (lvS_cons (lvS_cons (lvS_nil (show ([4, 6, 0, 1, 2, 3, 5] : List Nat).Nodup by decide)) rfl) rfl) rfl) rfl) rfl) ?_
                  exact i0 x1 x2 x3 v85 h (by omega) (by omega) K (by omega)
                · refine xi_cmf (pc' := 131) kc_57_128 rfl (xc_ge_f (X := v78.toInt) (Y := x3.toInt) rfl rfl (by omega)) ?_
                  refine xi_iload (pc' := 133) (x := x4) kc_57_131 rfl rfl ?_
                  refine xi_istore_n (pc' := 134) (lv' := [(2, .int x4), (6, .int v78), (0, .ref 115), (1, .int x1), (3, .int x3), (4, .int x4), (5, .int x5)]) kc_57_133 rfl rfl (xm_lt ml_57 rfl) ?_
                  refine xi_iload (pc' := 136) (x := v78) kc_57_134 rfl rfl ?_
                  refine xi_istore_n (pc' := 137) (lv' := [(3, .int v78), (2, .int x4), (6, .int v78), (0, .ref 115), (1, .int x1), (4, .int x4), (5, .int x5)]) kc_57_136 rfl rfl (xm_lt ml_57 rfl) ?_
                  refine xcps2 (α := Int32) (x4 + 1) (fun v86 ev86 => ?_)
                  have zv86 : v86.toInt = (x4.toInt + 1) := by rw [← ev86]; exact (xz_add (X := x4.toInt) (Y := 1) rfl (by decide) (by omega) (by omega)).trans (by omega)
                  refine xi_iinc (pc' := 140) (x := x4) (v := v86) (lv' := [(4, .int v86), (3, .int v78), (2, .int x4), (6, .int v78), (0, .ref 115), (1, .int x1), (5, .int x5)]) kc_57_137 rfl rfl ev86 rfl (xm_lt ml_57 rfl) ?_
                  refine xi_goto (pc' := 18) kc_57_140 rfl ?_
                  refine xw_lv (b := [(0, .ref 115), (1, .int x1), (2, .int x4), (3, .int v78), (4, .int v86)]) (lvS_cons (lvS_cons (lvS_cons (lvS_cons (lvS_cons (lvS_nil (show ([4, 3, 2, 6, 0, 1, 5] : List Nat).Nodup by decide)) rfl) rfl) rfl) rfl) rfl) ?_
                  exact i0 x1 x4 v78 v86 h (by omega) (by omega) K (by omega)
            · refine xi_ift (pc' := 137) kc_57_118 rfl (xc_ne_t (X := v80.toInt) (Y := 0) rfl (by decide) (by omega)) ?_
              refine xcps2 (α := Int32) (x4 + 1) (fun v87 ev87 => ?_)
              have zv87 : v87.toInt = (x4.toInt + 1) := by rw [← ev87]; exact (xz_add (X := x4.toInt) (Y := 1) rfl (by decide) (by omega) (by omega)).trans (by omega)
              refine xi_iinc (pc' := 140) (x := x4) (v := v87) (lv' := [(4, .int v87), (6, .int v78), (0, .ref 115), (1, .int x1), (2, .int x2), (3, .int x3), (5, .int x5)]) kc_57_137 rfl rfl ev87 rfl (xm_lt ml_57 rfl) ?_
              refine xi_goto (pc' := 18) kc_57_140 rfl ?_
              refine xw_lv (b := [(0, .ref 115), (1, .int x1), (2, .int x2), (3, .int x3), (4, .int v87)]) (lvS_cons (lvS_cons (lvS_cons (lvS_cons (lvS_cons (lvS_nil (show ([4, 6, 0, 1, 2, 3, 5] : List Nat).Nodup by decide)) rfl) rfl) rfl) rfl) rfl) ?_
              exact i0 x1 x2 x3 v87 h (by omega) (by omega) K (by omega)
          · refine xi_cmf (pc' := 99) kc_57_96 rfl (xc_le_f (X := x5.toInt) (Y := v76.toInt) rfl rfl (by omega)) ?_
            refine xi_iload (pc' := 101) (x := x5) kc_57_99 rfl rfl ?_
            refine xi_goto (pc' := 108) kc_57_101 rfl ?_
            refine xcps2 (α := Int32) ((v75 : Int32) * x5) (fun v88 ev88 => ?_)
            have rv88 := xc_rng v88
            refine xi_imul (pc' := 109) (v := v88) kc_57_108 rfl ev88 ?_
            refine xi_istore (pc' := 111) (lv' := [(6, .int v88), (0, .ref 115), (1, .int x1), (2, .int x2), (3, .int x3), (4, .int x4), (5, .int x5)]) kc_57_109 rfl rfl (xm_lt ml_57 rfl) ?_
            refine xi_aload_n (pc' := 112) (x := 115) kc_57_111 rfl rfl ?_
            refine xi_getfield (pc' := 115) (v := .ref 154) kc_57_112 rfl rfl rfl A14 rfl ?_
            refine xi_iload (pc' := 117) (x := x4) kc_57_115 rfl rfl ?_
            refine xcps4 (xk_arr K.1 xD_154) (fun y89 A89 hy89 ry89 => ?_)
            refine xcps4 (xj_get hy89 ry89 (i := x4) (by omega) (by omega)) (fun v90 ev90 bv90 dv90 => ?_)
            refine xi_iaload (pc' := 118) (v := v90) kc_57_117 rfl A89 (by decide) rfl (xi_in (by omega) (by rw [hy89]; omega)) ev90 ?_
            by_cases c91 : v90.toInt = 0
            · refine xi_iff (pc' := 121) kc_57_118 rfl (xc_ne_f (X := v90.toInt) (Y := 0) rfl (by decide) (by omega)) ?_
              refine xi_iload_n (pc' := 122) (x := x2) kc_57_121 rfl rfl ?_
              by_cases c92 : x2.toInt < 0
              · refine xi_ift (pc' := 131) kc_57_122 rfl (xc_lt_t (X := x2.toInt) (Y := 0) rfl (by decide) (by omega)) ?_
                refine xi_iload (pc' := 133) (x := x4) kc_57_131 rfl rfl ?_
                refine xi_istore_n (pc' := 134) (lv' := [(2, .int x4), (6, .int v88), (0, .ref 115), (1, .int x1), (3, .int x3), (4, .int x4), (5, .int x5)]) kc_57_133 rfl rfl (xm_lt ml_57 rfl) ?_
                refine xi_iload (pc' := 136) (x := v88) kc_57_134 rfl rfl ?_
                refine xi_istore_n (pc' := 137) (lv' := [(3, .int v88), (2, .int x4), (6, .int v88), (0, .ref 115), (1, .int x1), (4, .int x4), (5, .int x5)]) kc_57_136 rfl rfl (xm_lt ml_57 rfl) ?_
                refine xcps2 (α := Int32) (x4 + 1) (fun v93 ev93 => ?_)
                have zv93 : v93.toInt = (x4.toInt + 1) := by rw [← ev93]; exact (xz_add (X := x4.toInt) (Y := 1) rfl (by decide) (by omega) (by omega)).trans (by omega)
                refine xi_iinc (pc' := 140) (x := x4) (v := v93) (lv' := [(4, .int v93), (3, .int v88), (2, .int x4), (6, .int v88), (0, .ref 115), (1, .int x1), (5, .int x5)]) kc_57_137 rfl rfl ev93 rfl (xm_lt ml_57 rfl) ?_
                refine xi_goto (pc' := 18) kc_57_140 rfl ?_
                refine xw_lv (b := [(0, .ref 115), (1, .int x1), (2, .int x4), (3, .int v88), (4, .int v93)]) (lvS_cons (lvS_cons (lvS_cons (lvS_cons (lvS_cons (lvS_nil (show ([4, 3, 2, 6, 0, 1, 5] : List Nat).Nodup by decide)) rfl) rfl) rfl) rfl) rfl) ?_
                exact i0 x1 x4 v88 v93 h (by omega) (by omega) K (by omega)
              · refine xi_iff (pc' := 125) kc_57_122 rfl (xc_lt_f (X := x2.toInt) (Y := 0) rfl (by decide) (by omega)) ?_
                refine xi_iload (pc' := 127) (x := v88) kc_57_125 rfl rfl ?_
                refine xi_iload_n (pc' := 128) (x := x3) kc_57_127 rfl rfl ?_
                by_cases c94 : x3.toInt ≤ v88.toInt
                · refine xi_cmt (pc' := 137) kc_57_128 rfl (xc_ge_t (X := v88.toInt) (Y := x3.toInt) rfl rfl (by omega)) ?_
                  refine xcps2 (α := Int32) (x4 + 1) (fun v95 ev95 => ?_)
                  have zv95 : v95.toInt = (x4.toInt + 1) := by rw [← ev95]; exact (xz_add (X := x4.toInt) (Y := 1) rfl (by decide) (by omega) (by omega)).trans (by omega)
                  refine xi_iinc (pc' := 140) (x := x4) (v := v95) (lv' := [(4, .int v95), (6, .int v88), (0, .ref 115), (1, .int x1), (2, .int x2), (3, .int x3), (5, .int x5)]) kc_57_137 rfl rfl ev95 rfl (xm_lt ml_57 rfl) ?_
                  refine xi_goto (pc' := 18) kc_57_140 rfl ?_
                  refine xw_lv (b := [(0, .ref 115), (1, .int x1), (2, .int x2), (3, .int x3), (4, .int v95)]) (lvS_cons (lvS_cons (lvS_cons (lvS_cons (lvS_cons (lvS_nil (show ([4, 6, 0, 1, 2, 3, 5] : List Nat).Nodup by decide)) rfl) rfl) rfl) rfl) rfl) ?_
                  exact i0 x1 x2 x3 v95 h (by omega) (by omega) K (by omega)
                · refine xi_cmf (pc' := 131) kc_57_128 rfl (xc_ge_f (X := v88.toInt) (Y := x3.toInt) rfl rfl (by omega)) ?_
                  refine xi_iload (pc' := 133) (x := x4) kc_57_131 rfl rfl ?_
                  refine xi_istore_n (pc' := 134) (lv' := [(2, .int x4), (6, .int v88), (0, .ref 115), (1, .int x1), (3, .int x3), (4, .int x4), (5, .int x5)]) kc_57_133 rfl rfl (xm_lt ml_57 rfl) ?_
                  refine xi_iload (pc' := 136) (x := v88) kc_57_134 rfl rfl ?_
                  refine xi_istore_n (pc' := 137) (lv' := [(3, .int v88), (2, .int x4), (6, .int v88), (0, .ref 115), (1, .int x1), (4, .int x4), (5, .int x5)]) kc_57_136 rfl rfl (xm_lt ml_57 rfl) ?_
                  refine xcps2 (α := Int32) (x4 + 1) (fun v96 ev96 => ?_)
                  have zv96 : v96.toInt = (x4.toInt + 1) := by rw [← ev96]; exact (xz_add (X := x4.toInt) (Y := 1) rfl (by decide) (by omega) (by omega)).trans (by omega)
                  refine xi_iinc (pc' := 140) (x := x4) (v := v96) (lv' := [(4, .int v96), (3, .int v88), (2, .int x4), (6, .int v88), (0, .ref 115), (1, .int x1), (5, .int x5)]) kc_57_137 rfl rfl ev96 rfl (xm_lt ml_57 rfl) ?_
                  refine xi_goto (pc' := 18) kc_57_140 rfl ?_
                  refine xw_lv (b := [(0, .ref 115), (1, .int x1), (2, .int x4), (3, .int v88), (4, .int v96)]) (lvS_cons (lvS_cons (lvS_cons (lvS_cons (lvS_cons (lvS_nil (show ([4, 3, 2, 6, 0, 1, 5] : List Nat).Nodup by decide)) rfl) rfl) rfl) rfl) rfl) ?_
                  exact i0 x1 x4 v88 v96 h (by omega) (by omega) K (by omega)
            · refine xi_ift (pc' := 137) kc_57_118 rfl (xc_ne_t (X := v90.toInt) (Y := 0) rfl (by decide) (by omega)) ?_
              refine xcps2 (α := Int32) (x4 + 1) (fun v97 ev97 => ?_)
              have zv97 : v97.toInt = (x4.toInt + 1) := by rw [← ev97]; exact (xz_add (X := x4.toInt) (Y := 1) rfl (by decide) (by omega) (by omega)).trans (by omega)
              refine xi_iinc (pc' := 140) (x := x4) (v := v97) (lv' := [(4, .int v97), (6, .int v88), (0, .ref 115), (1, .int x1), (2, .int x2), (3, .int x3), (5, .int x5)]) kc_57_137 rfl rfl ev97 rfl (xm_lt ml_57 rfl) ?_
              refine xi_goto (pc' := 18) kc_57_140 rfl ?_
              refine xw_lv (b := [(0, .ref 115), (1, .int x1), (2, .int x2), (3, .int x3), (4, .int v97)]) (lvS_cons (lvS_cons (lvS_cons (lvS_cons (lvS_cons (lvS_nil (show ([4, 6, 0, 1, 2, 3, 5] : List Nat).Nodup by decide)) rfl) rfl) rfl) rfl) rfl) ?_
              exact i0 x1 x2 x3 v97 h (by omega) (by omega) K (by omega)
        · refine xi_cmf (pc' := 46) kc_57_43 rfl (xc_ge_f (X := x6.toInt) (Y := v72.toInt) rfl rfl (by omega)) ?_
          refine xi_iload (pc' := 48) (x := x5) kc_57_46 rfl rfl ?_
          refine xi_aload_n (pc' := 49) (x := 115) kc_57_48 rfl rfl ?_
          refine xi_iload (pc' := 51) (x := x6) kc_57_49 rfl rfl ?_
          refine xi_virtual (mj := 53) (as := [.int x6]) (st1 := [.int x5]) (lv0 := [(0, .ref 115), (1, .int x6)]) kc_57_51 rfl rfl rfl rfl rfl A14 (Nat.le_of_ble_eq_true rfl) (hJ _ _ _ _ (by decide)) (xm_le ml_53 rfl) rfl ?_
          refine mt_53_0 hJ hov1 hov2 (d := d + 6) (x1 := x6) K.1 (by first | omega | decide) (fun r98 hh99 br98 K100 => ?_)
          have K101 := xk_tr K K100 rfl
          refine xp_115 K101.1 (fun u102 u103 u104 u105 u106 u107 u108 u109 u110 u111 u112 u113 u114 bu102 bu103 bu104 bu105 bu106 bu107 bu108 bu109 bu110 bu111 bu112 bu113 bu114 A115 => ?_)
          have e116 : u2 = u103 := xk_eqi (q := 1) K100 rfl A14 A115 rfl rfl
          subst e116
          have e117 : u5 = u106 := xk_eqi (q := 23) K100 rfl A14 A115 rfl rfl
          subst e117
          show xw J ov (d + 8) 57 (54, [(0, .ref 115), (1, .int x1), (2, .int x2), (3, .int x3), (4, .int x4), (5, .int x5), (6, .int x6)], [.int r98, .int x5], hh99) _
          by_cases c118 : r98.toInt = 0
          · refine xi_ift (pc' := 73) kc_57_54 rfl (xc_eq_t (X := r98.toInt) (Y := 0) rfl (by decide) (by omega)) ?_
            refine xi_iconst (pc' := 74) (v := 0) kc_57_73 rfl rfl ?_
            refine xcps2 (α := Int32) (x5 + 0) (fun v119 ev119 => ?_)
            have zv119 : v119.toInt = x5.toInt := by rw [← ev119]; exact (xz_add (X := x5.toInt) (Y := 0) rfl (by decide) (by omega) (by omega)).trans (by omega)
            refine xi_iadd (pc' := 75) (v := v119) kc_57_74 rfl ev119 ?_
            refine xi_istore (pc' := 77) (lv' := [(5, .int v119), (0, .ref 115), (1, .int x1), (2, .int x2), (3, .int x3), (4, .int x4), (6, .int x6)]) kc_57_75 rfl rfl (xm_lt ml_57 rfl) ?_
            refine xcps2 (α := Int32) (x6 + 1) (fun v120 ev120 => ?_)
            have zv120 : v120.toInt = (x6.toInt + 1) := by rw [← ev120]; exact (xz_add (X := x6.toInt) (Y := 1) rfl (by decide) (by omega) (by omega)).trans (by omega)
            refine xi_iinc (pc' := 80) (x := x6) (v := v120) (lv' := [(6, .int v120), (5, .int v119), (0, .ref 115), (1, .int x1), (2, .int x2), (3, .int x3), (4, .int x4)]) kc_57_77 rfl rfl ev120 rfl (xm_lt ml_57 rfl) ?_
            refine xi_goto (pc' := 37) kc_57_80 rfl ?_
            refine xw_lv (b := [(0, .ref 115), (1, .int x1), (2, .int x2), (3, .int x3), (4, .int x4), (5, .int v119), (6, .int v120)]) (lvS_cons (lvS_cons (lvS_cons (lvS_cons (lvS_cons (lvS_cons (lvS_cons (lvS_nil (show ([6, 5, 0, 1, 2, 3, 4] : List Nat).Nodup by decide)) rfl) rfl) rfl) rfl) rfl) rfl) rfl) ?_
            exact i1 x1 x2 x3 x4 v119 v120 hh99 (by omega) (by omega) (by omega) (by omega) K101 (by omega)
          · refine xi_iff (pc' := 57) kc_57_54 rfl (xc_eq_f (X := r98.toInt) (Y := 0) rfl (by decide) (by omega)) ?_
            refine xi_aload_n (pc' := 58) (x := 115) kc_57_57 rfl rfl ?_
            refine xi_iload (pc' := 60) (x := x4) kc_57_58 rfl rfl ?_
            refine xi_iload (pc' := 62) (x := x6) kc_57_60 rfl rfl ?_
            refine xi_virtual (mj := 54) (as := [.int x4, .int x6]) (st1 := [.int x5]) (lv0 := [(0, .ref 115), (1, .int x4), (2, .int x6)]) kc_57_62 rfl rfl rfl rfl rfl A115 (Nat.le_of_ble_eq_true rfl) (hJ _ _ _ _ (by decide)) (xm_le ml_54 rfl) rfl ?_
            refine xi_aload_n (pc' := 1) (x := 115) kc_54_0 rfl rfl ?_
            refine xi_getfield (pc' := 4) (v := .ref 152) kc_54_1 rfl rfl rfl A115 rfl ?_
            refine xi_iload_n (pc' := 5) (x := x4) kc_54_4 rfl rfl ?_
            refine xcps4 (xk_arr K101.1 xD_152) (fun y121 A121 hy121 ry121 => ?_)
            refine xcps4 (xj_get hy121 ry121 (i := x4) (by omega) (by omega)) (fun v122 ev122 bv122 dv122 => ?_)
            refine xi_iaload (pc' := 6) (v := v122) kc_54_5 rfl A121 (by decide) rfl (xi_in (by omega) (by rw [hy121]; omega)) ev122 ?_
            refine xi_iload_n (pc' := 7) (x := x6) kc_54_6 rfl rfl ?_
            refine xcps2 (α := Int32) ((v122 : Int32) &&& x6) (fun v123 ev123 => ?_)
            have rv123 := xc_rng v123
            refine xi_iand (pc' := 8) (v := v123) kc_54_7 rfl ev123 ?_
            by_cases c124 : v123.toInt = 0
            · refine xi_ift (pc' := 15) kc_54_8 rfl (xc_eq_t (X := v123.toInt) (Y := 0) rfl (by decide) (by omega)) ?_
              refine xi_iconst (pc' := 16) (v := 2) kc_54_15 rfl rfl ?_
              refine xi_ireturn kc_54_16 mr_54 rfl ?_
              show xw J ov (d + 8) 57 (65, [(0, .ref 115), (1, .int x1), (2, .int x2), (3, .int x3), (4, .int x4), (5, .int x5), (6, .int x6)], [.int 2, .int x5], hh99) _
              refine xi_iconst (pc' := 66) (v := 1) kc_57_65 rfl rfl ?_
              refine xi_cmt (pc' := 73) kc_57_66 rfl rfl ?_
              refine xi_iconst (pc' := 74) (v := 0) kc_57_73 rfl rfl ?_
              refine xcps2 (α := Int32) (x5 + 0) (fun v125 ev125 => ?_)
              have zv125 : v125.toInt = x5.toInt := by rw [← ev125]; exact (xz_add (X := x5.toInt) (Y := 0) rfl (by decide) (by omega) (by omega)).trans (by omega)
              refine xi_iadd (pc' := 75) (v := v125) kc_57_74 rfl ev125 ?_
              refine xi_istore (pc' := 77) (lv' := [(5, .int v125), (0, .ref 115), (1, .int x1), (2, .int x2), (3, .int x3), (4, .int x4), (6, .int x6)]) kc_57_75 rfl rfl (xm_lt ml_57 rfl) ?_
              refine xcps2 (α := Int32) (x6 + 1) (fun v126 ev126 => ?_)
              have zv126 : v126.toInt = (x6.toInt + 1) := by rw [← ev126]; exact (xz_add (X := x6.toInt) (Y := 1) rfl (by decide) (by omega) (by omega)).trans (by omega)
              refine xi_iinc (pc' := 80) (x := x6) (v := v126) (lv' := [(6, .int v126), (5, .int v125), (0, .ref 115), (1, .int x1), (2, .int x2), (3, .int x3), (4, .int x4)]) kc_57_77 rfl rfl ev126 rfl (xm_lt ml_57 rfl) ?_
              refine xi_goto (pc' := 37) kc_57_80 rfl ?_
              refine xw_lv (b := [(0, .ref 115), (1, .int x1), (2, .int x2), (3, .int x3), (4, .int x4), (5, .int v125), (6, .int v126)]) (lvS_cons (lvS_cons (lvS_cons (lvS_cons (lvS_cons (lvS_cons (lvS_cons (lvS_nil (show ([6, 5, 0, 1, 2, 3, 4] : List Nat).Nodup by decide)) rfl) rfl) rfl) rfl) rfl) rfl) rfl) ?_
              exact i1 x1 x2 x3 x4 v125 v126 hh99 (by omega) (by omega) (by omega) (by omega) K101 (by omega)
            · refine xi_iff (pc' := 11) kc_54_8 rfl (xc_eq_f (X := v123.toInt) (Y := 0) rfl (by decide) (by omega)) ?_
              refine xi_iconst (pc' := 12) (v := 1) kc_54_11 rfl rfl ?_
              refine xi_goto (pc' := 16) kc_54_12 rfl ?_
              refine xi_ireturn kc_54_16 mr_54 rfl ?_
              show xw J ov (d + 8) 57 (65, [(0, .ref 115), (1, .int x1), (2, .int x2), (3, .int x3), (4, .int x4), (5, .int x5), (6, .int x6)], [.int 1, .int x5], hh99) _
              refine xi_iconst (pc' := 66) (v := 1) kc_57_65 rfl rfl ?_
              refine xi_cmf (pc' := 69) kc_57_66 rfl rfl ?_
              refine xi_iconst (pc' := 70) (v := 1) kc_57_69 rfl rfl ?_
              refine xi_goto (pc' := 74) kc_57_70 rfl ?_
              refine xcps2 (α := Int32) ((x5 : Int32) + 1) (fun v127 ev127 => ?_)
              have rv127 := xc_rng v127
              refine xi_iadd (pc' := 75) (v := v127) kc_57_74 rfl ev127 ?_
              refine xi_istore (pc' := 77) (lv' := [(5, .int v127), (0, .ref 115), (1, .int x1), (2, .int x2), (3, .int x3), (4, .int x4), (6, .int x6)]) kc_57_75 rfl rfl (xm_lt ml_57 rfl) ?_
              refine xcps2 (α := Int32) (x6 + 1) (fun v128 ev128 => ?_)
              have zv128 : v128.toInt = (x6.toInt + 1) := by rw [← ev128]; exact (xz_add (X := x6.toInt) (Y := 1) rfl (by decide) (by omega) (by omega)).trans (by omega)
              refine xi_iinc (pc' := 80) (x := x6) (v := v128) (lv' := [(6, .int v128), (5, .int v127), (0, .ref 115), (1, .int x1), (2, .int x2), (3, .int x3), (4, .int x4)]) kc_57_77 rfl rfl ev128 rfl (xm_lt ml_57 rfl) ?_
              refine xi_goto (pc' := 37) kc_57_80 rfl ?_
              refine xw_lv (b := [(0, .ref 115), (1, .int x1), (2, .int x2), (3, .int x3), (4, .int x4), (5, .int v127), (6, .int v128)]) (lvS_cons (lvS_cons (lvS_cons (lvS_cons (lvS_cons (lvS_cons (lvS_cons (lvS_nil (show ([6, 5, 0, 1, 2, 3, 4] : List Nat).Nodup by decide)) rfl) rfl) rfl) rfl) rfl) rfl) rfl) ?_
              exact i1 x1 x2 x3 x4 v127 v128 hh99 (by omega) (by omega) (by omega) (by omega) K101 (by omega)
set_option maxHeartbeats 4000000 in
theorem mt_57_0 {J : xe_J} {ov : List (List Int32)} (hJ : ∀ d mj as h, mj ≠ xe_loff → J d mj as h = none) (hov1 : ov[1]? = some [10, 0, 0, 0, 0, 0]) (hov2 : ov[2]? = some [99, 30, 50, 50, 1, 99999]) {d : Nat} {Q : Option Value → xe_H → Prop} {h : xe_H} (T : xt h) (kk : (∀ (r : Int32) (h' : xe_H), ((-9) ≤ r.toInt ∧ r.toInt ≤ 7) → xk [(0, 9), (115, 1), (83, 0), (29, 0), (31, 0), (33, 0), (35, 0), (37, 0), (39, 0), (41, 0), (43, 0), (45, 0), (47, 0), (49, 0), (51, 0), (125, 0), (29, 2), (31, 2), (33, 2), (35, 2), (37, 2), (39, 2), (41, 2), (43, 2), (45, 2), (47, 2), (49, 2), (51, 2), (127, 0), (1, 5), (115, 23)] h h' → Q (some (.int r)) h')) : xw J ov (d + 8) 57 (0, [(0, .ref 115)], [], h) Q := by
  have K : xk [(0, 9), (115, 1), (83, 0), (29, 0), (31, 0), (33, 0), (35, 0), (37, 0), (39, 0), (41, 0), (43, 0), (45, 0), (47, 0), (49, 0), (51, 0), (125, 0), (29, 2), (31, 2), (33, 2), (35, 2), (37, 2), (39, 2), (41, 2), (43, 2), (45, 2), (47, 2), (49, 2), (51, 2), (127, 0), (1, 5), (115, 23)] h h := xk_re T
  refine xi_aload_n (pc' := 1) (x := 115) kc_57_0 rfl rfl ?_
  refine xi_iconst (pc' := 2) (v := 0) kc_57_1 rfl rfl ?_
  refine xp_115 K.1 (fun u1 u2 u3 u4 u5 u6 u7 u8 u9 u10 u11 u12 u13 bu1 bu2 bu3 bu4 bu5 bu6 bu7 bu8 bu9 bu10 bu11 bu12 bu13 A14 => ?_)
  refine xi_putfield (pc' := 5) (fs' := [.int 0, .int u2, .ref 116, .ref 117, .ref 118, .ref 119, .ref 120, .ref 121, .ref 122, .ref 123, .ref 124, .ref 125, .ref 126, .ref 127, .ref 128, .ref 129, .int u3, .ref 130, .int u4, .ref 131, .ref 132, .ref 133, .ref 134, .int u5, .ref 135, .ref 136, .ref 137, .ref 138, .ref 139, .ref 140, .ref 141, .ref 142, .int u6, .int u7, .int u8, .ref 143, .ref 144, .ref 145, .ref 146, .ref 147, .ref 148, .int u9, .ref 149, .ref 150, .ref 151, .int u10, .ref 152, .ref 153, .ref 154, .ref 155, .ref 156, .ref 157, .ref 158, .ref 159, .int u11, .ref 160, .int u12, .ref 161, .ref 162, .ref 163, .ref 164, .int u13, .ref 165, .ref 166]) kc_57_2 rfl rfl rfl A14 rfl rfl rfl (Nat.le_of_ble_eq_true rfl) rfl (fun hh16 eh15 => ?_)
  have K17 := xk_pf (k := 0) (v := 0) K (xk_wf rfl) xD_115 A14 rfl (by first | omega | decide) (by first | omega | decide) eh15 rfl
  refine xi_aload_n (pc' := 6) (x := 115) kc_57_5 rfl rfl ?_
  refine xi_virtual (mj := 52) (as := []) (st1 := []) (lv0 := [(0, .ref 115)]) kc_57_6 rfl rfl rfl rfl rfl eh15.1 (Nat.le_of_ble_eq_true rfl) (hJ _ _ _ _ (by decide)) (xm_le ml_52 rfl) rfl ?_
  refine mt_52_0 hJ hov1 hov2 (d := d)  K17.1 (fun r18 hh19 K20 => ?_)
  have br18 := xc_rng r18
  have K21 := xk_tr K17 K20 rfl
  refine xp_115 K21.1 (fun u22 u23 u24 u25 u26 u27 u28 u29 u30 u31 u32 u33 u34 bu22 bu23 bu24 bu25 bu26 bu27 bu28 bu29 bu30 bu31 bu32 bu33 bu34 A35 => ?_)
  have e36 : u2 = u23 := xk_eqi (q := 1) K20 rfl eh15.1 A35 rfl rfl
  subst e36
  have e37 : u5 = u26 := xk_eqi (q := 23) K20 rfl eh15.1 A35 rfl rfl
  subst e37
  show xw J ov (d + 8) 57 (9, [(0, .ref 115)], [.int r18], hh19) _
  refine xi_istore_n (pc' := 10) (lv' := [(1, .int r18), (0, .ref 115)]) kc_57_9 rfl rfl (xm_lt ml_57 rfl) ?_
  refine xi_bipush (pc' := 12) (v := (-9)) kc_57_10 rfl rfl ?_
  refine xi_istore_n (pc' := 13) (lv' := [(2, .int (-9)), (1, .int r18), (0, .ref 115)]) kc_57_12 rfl rfl (xm_lt ml_57 rfl) ?_
  refine xi_iconst (pc' := 14) (v := 0) kc_57_13 rfl rfl ?_
  refine xi_istore_n (pc' := 15) (lv' := [(3, .int 0), (2, .int (-9)), (1, .int r18), (0, .ref 115)]) kc_57_14 rfl rfl (xm_lt ml_57 rfl) ?_
  refine xi_iconst (pc' := 16) (v := 0) kc_57_15 rfl rfl ?_
  refine xi_istore (pc' := 18) (lv' := [(4, .int 0), (3, .int 0), (2, .int (-9)), (1, .int r18), (0, .ref 115)]) kc_57_16 rfl rfl (xm_lt ml_57 rfl) ?_
  have zcm9 : ((-9) : Int32).toInt = (-9) := by decide
  have zc0 : (0 : Int32).toInt = 0 := by decide
  refine xw_lv (b := [(0, .ref 115), (1, .int r18), (2, .int (-9)), (3, .int 0), (4, .int 0)]) (lvS_cons (lvS_cons (lvS_cons (lvS_cons (lvS_cons (lvS_nil (show ([4, 3, 2, 1, 0] : List Nat).Nodup by decide)) rfl) rfl) rfl) rfl) rfl) ?_
  exact (lp_57_0 hJ hov1 hov2 (d := d) (hb := hh19) (fun r9 h9 b9 K9 => kk r9 h9 b9 (xk_tr K21 K9 rfl)) 594).1 r18 (-9) 0 0 hh19 (by omega) (by omega) (xk_re K21.1) (by omega)
set_option maxHeartbeats 4000000 in
theorem lp_60_0 {J : xe_J} {ov : List (List Int32)} (hJ : ∀ d mj as h, mj ≠ xe_loff → J d mj as h = none) (hov1 : ov[1]? = some [10, 0, 0, 0, 0, 0]) (hov2 : ov[2]? = some [99, 30, 50, 50, 1, 99999]) {d : Nat} {Q : Option Value → xe_H → Prop} {hb : xe_H} (kk : (∀ (r : Int32) (h' : xe_H), (0 ≤ r.toInt ∧ r.toInt ≤ 1) → xk [(0, 9), (115, 1), (83, 0), (29, 0), (31, 0), (33, 0), (35, 0), (37, 0), (39, 0), (41, 0), (43, 0), (45, 0), (47, 0), (49, 0), (51, 0), (125, 0), (29, 2), (31, 2), (33, 2), (35, 2), (37, 2), (39, 2), (41, 2), (43, 2), (45, 2), (47, 2), (49, 2), (51, 2), (127, 0), (1, 5), (115, 23)] hb h' → Q (some (.int r)) h')) : ∀ m : Nat, (∀ (x1 : Int32) (x3 : Int32) (x4 : Int32) (x5 : Int32) (h : xe_H), (0 ≤ x1.toInt ∧ x1.toInt ≤ 63) → (0 ≤ x3.toInt ∧ x3.toInt ≤ 6560) → (0 ≤ x4.toInt ∧ x4.toInt ≤ 1) → (0 ≤ x5.toInt ∧ x5.toInt ≤ 8) → xk [(0, 9), (115, 1), (83, 0), (29, 0), (31, 0), (33, 0), (35, 0), (37, 0), (39, 0), (41, 0), (43, 0), (45, 0), (47, 0), (49, 0), (51, 0), (125, 0), (29, 2), (31, 2), (33, 2), (35, 2), (37, 2), (39, 2), (41, 2), (43, 2), (45, 2), (47, 2), (49, 2), (51, 2), (127, 0), (1, 5), (115, 23)] hb h → (-1) * x5.toInt + 8 < (m : Int) → xw J ov (d + 2) 60 (12, [(0, .ref 115), (1, .int x1), (3, .int x3), (4, .int x4), (5, .int x5)], [], h) Q) := by
  intro m
  induction m with
  | zero =>
    intro x1 x3 x4 x5 h b1 b3 b4 b5 K hm; exfalso; omega
  | succ m ih =>
    have i0 := ih
    intro x1 x3 x4 x5 h b1 b3 b4 b5 K hm
    refine xi_iload (pc' := 14) (x := x5) kc_60_12 rfl rfl ?_
    refine xi_aload_n (pc' := 15) (x := 115) kc_60_14 rfl rfl ?_
    refine xp_115 K.1 (fun u1 u2 u3 u4 u5 u6 u7 u8 u9 u10 u11 u12 u13 bu1 bu2 bu3 bu4 bu5 bu6 bu7 bu8 bu9 bu10 bu11 bu12 bu13 A14 => ?_)
    refine xi_getfield (pc' := 18) (v := .int u10) kc_60_15 rfl rfl rfl A14 rfl ?_
    by_cases c15 : u10.toInt ≤ x5.toInt
    · refine xi_cmt (pc' := 62) kc_60_18 rfl (xc_ge_t (X := x5.toInt) (Y := u10.toInt) rfl rfl (by omega)) ?_
      refine xi_iload (pc' := 64) (x := x4) kc_60_62 rfl rfl ?_
      by_cases c16 : x4.toInt = 0
      · have qx4 : x4 = 0 := xc_of (Eq.trans (by omega) (show (0 : Int) = (0 : Int32).toInt by decide))
        subst qx4
        refine xi_ireturn kc_60_64 mr_60 rfl ?_
        have zc0 : (0 : Int32).toInt = 0 := by decide
        exact kk 0 h (by omega) K
      have qx4 : x4 = 1 := xc_of (Eq.trans (by omega) (show (1 : Int) = (1 : Int32).toInt by decide))
      subst qx4
      refine xi_ireturn kc_60_64 mr_60 rfl ?_
      have zc1 : (1 : Int32).toInt = 1 := by decide
      exact kk 1 h (by omega) K
    · refine xi_cmf (pc' := 21) kc_60_18 rfl (xc_ge_f (X := x5.toInt) (Y := u10.toInt) rfl rfl (by omega)) ?_
      refine xi_iload (pc' := 23) (x := x4) kc_60_21 rfl rfl ?_
      by_cases c17 : x4.toInt = 0
      · refine xi_ift (pc' := 62) kc_60_23 rfl (xc_eq_t (X := x4.toInt) (Y := 0) rfl (by decide) (by omega)) ?_
        refine xi_iload (pc' := 64) (x := x4) kc_60_62 rfl rfl ?_
        have qx4 : x4 = 0 := xc_of (Eq.trans (by omega) (show (0 : Int) = (0 : Int32).toInt by decide))
        subst qx4
        refine xi_ireturn kc_60_64 mr_60 rfl ?_
        have zc0 : (0 : Int32).toInt = 0 := by decide
        exact kk 0 h (by omega) K
      · refine xi_iff (pc' := 26) kc_60_23 rfl (xc_eq_f (X := x4.toInt) (Y := 0) rfl (by decide) (by omega)) ?_
        refine xi_iload_n (pc' := 27) (x := x3) kc_60_26 rfl rfl ?_
        refine xi_iconst (pc' := 28) (v := 3) kc_60_27 rfl rfl ?_
        refine xcps2 (α := Int32) (x3 - x3 / 3 * 3) (fun v18 ev18 => ?_)
        have dv18 : v18.toInt = x3.toInt % 3 := by rw [← ev18]; exact xz_reme (X := x3.toInt) (Y := 3) rfl (by decide) (by omega) (by decide)
        have bv18 : 0 ≤ v18.toInt ∧ v18.toInt ≤ 2 := by omega
        refine xi_irem (pc' := 29) (v := v18) kc_60_28 rfl ev18 (by decide) ?_
        by_cases c19 : v18.toInt = 0
        · refine xi_ift (pc' := 45) kc_60_29 rfl (xc_eq_t (X := v18.toInt) (Y := 0) rfl (by decide) (by omega)) ?_
          refine xi_iconst (pc' := 46) (v := 1) kc_60_45 rfl rfl ?_
          refine xi_goto (pc' := 50) kc_60_46 rfl ?_
          refine xi_istore (pc' := 52) (lv' := [(4, .int 1), (0, .ref 115), (1, .int x1), (3, .int x3), (5, .int x5)]) kc_60_50 rfl rfl (xm_lt ml_60 rfl) ?_
          refine xi_iload_n (pc' := 53) (x := x3) kc_60_52 rfl rfl ?_
          refine xi_iconst (pc' := 54) (v := 3) kc_60_53 rfl rfl ?_
          refine xcps2 (α := Int32) (x3 / 3) (fun v20 ev20 => ?_)
          have dv20 : v20.toInt = x3.toInt / 3 := by rw [← ev20]; exact xz_dive (X := x3.toInt) (Y := 3) rfl (by decide) (by omega) (by decide)
          have bv20 : 0 ≤ v20.toInt ∧ v20.toInt ≤ 2186 := by omega
          refine xi_idiv (pc' := 55) (v := v20) kc_60_54 rfl ev20 (by decide) ?_
          refine xi_istore_n (pc' := 56) (lv' := [(3, .int v20), (4, .int 1), (0, .ref 115), (1, .int x1), (5, .int x5)]) kc_60_55 rfl rfl (xm_lt ml_60 rfl) ?_
          refine xcps2 (α := Int32) (x5 + 1) (fun v21 ev21 => ?_)
          have zv21 : v21.toInt = (x5.toInt + 1) := by rw [← ev21]; exact (xz_add (X := x5.toInt) (Y := 1) rfl (by decide) (by omega) (by omega)).trans (by omega)
          refine xi_iinc (pc' := 59) (x := x5) (v := v21) (lv' := [(5, .int v21), (3, .int v20), (4, .int 1), (0, .ref 115), (1, .int x1)]) kc_60_56 rfl rfl ev21 rfl (xm_lt ml_60 rfl) ?_
          refine xi_goto (pc' := 12) kc_60_59 rfl ?_
          have zc1 : (1 : Int32).toInt = 1 := by decide
          refine xw_lv (b := [(0, .ref 115), (1, .int x1), (3, .int v20), (4, .int 1), (5, .int v21)]) (lvS_cons (lvS_cons (lvS_cons (lvS_cons (lvS_cons (lvS_nil (show ([5, 3, 4, 0, 1] : List Nat).Nodup by decide)) rfl) rfl) rfl) rfl) rfl) ?_
          exact i0 x1 v20 1 v21 h (by omega) (by omega) (by omega) (by omega) K (by omega)
        · refine xi_iff (pc' := 32) kc_60_29 rfl (xc_eq_f (X := v18.toInt) (Y := 0) rfl (by decide) (by omega)) ?_
          refine xi_iload_n (pc' := 33) (x := x3) kc_60_32 rfl rfl ?_
          refine xi_iconst (pc' := 34) (v := 3) kc_60_33 rfl rfl ?_
          refine xi_irem (pc' := 35) (v := v18) kc_60_34 rfl ev18 (by decide) ?_
          refine xi_aload_n (pc' := 36) (x := 115) kc_60_35 rfl rfl ?_
          refine xi_iload (pc' := 38) (x := x5) kc_60_36 rfl rfl ?_
          refine xi_iload_n (pc' := 39) (x := x1) kc_60_38 rfl rfl ?_
          refine xi_virtual (mj := 54) (as := [.int x5, .int x1]) (st1 := [.int v18]) (lv0 := [(0, .ref 115), (1, .int x5), (2, .int x1)]) kc_60_39 rfl rfl rfl rfl rfl A14 (Nat.le_of_ble_eq_true rfl) (hJ _ _ _ _ (by decide)) (xm_le ml_54 rfl) rfl ?_
          refine xi_aload_n (pc' := 1) (x := 115) kc_54_0 rfl rfl ?_
          refine xi_getfield (pc' := 4) (v := .ref 152) kc_54_1 rfl rfl rfl A14 rfl ?_
          refine xi_iload_n (pc' := 5) (x := x5) kc_54_4 rfl rfl ?_
          refine xcps4 (xk_arr K.1 xD_152) (fun y22 A22 hy22 ry22 => ?_)
          refine xcps4 (xj_get hy22 ry22 (i := x5) (by omega) (by omega)) (fun v23 ev23 bv23 dv23 => ?_)
          refine xi_iaload (pc' := 6) (v := v23) kc_54_5 rfl A22 (by decide) rfl (xi_in (by omega) (by rw [hy22]; omega)) ev23 ?_
          refine xi_iload_n (pc' := 7) (x := x1) kc_54_6 rfl rfl ?_
          refine xcps2 (α := Int32) ((v23 : Int32) &&& x1) (fun v24 ev24 => ?_)
          have rv24 := xc_rng v24
          refine xi_iand (pc' := 8) (v := v24) kc_54_7 rfl ev24 ?_
          by_cases c25 : v24.toInt = 0
          · refine xi_ift (pc' := 15) kc_54_8 rfl (xc_eq_t (X := v24.toInt) (Y := 0) rfl (by decide) (by omega)) ?_
            refine xi_iconst (pc' := 16) (v := 2) kc_54_15 rfl rfl ?_
            refine xi_ireturn kc_54_16 mr_54 rfl ?_
            show xw J ov (d + 2) 60 (42, [(0, .ref 115), (1, .int x1), (3, .int x3), (4, .int x4), (5, .int x5)], [.int 2, .int v18], h) _
            by_cases c26 : v18.toInt = 2
            · refine xi_cmf (pc' := 45) kc_60_42 rfl (xc_ne_f (X := v18.toInt) (Y := 2) rfl (by decide) (by omega)) ?_
              refine xi_iconst (pc' := 46) (v := 1) kc_60_45 rfl rfl ?_
              refine xi_goto (pc' := 50) kc_60_46 rfl ?_
              refine xi_istore (pc' := 52) (lv' := [(4, .int 1), (0, .ref 115), (1, .int x1), (3, .int x3), (5, .int x5)]) kc_60_50 rfl rfl (xm_lt ml_60 rfl) ?_
              refine xi_iload_n (pc' := 53) (x := x3) kc_60_52 rfl rfl ?_
              refine xi_iconst (pc' := 54) (v := 3) kc_60_53 rfl rfl ?_
              refine xcps2 (α := Int32) (x3 / 3) (fun v27 ev27 => ?_)
              have dv27 : v27.toInt = x3.toInt / 3 := by rw [← ev27]; exact xz_dive (X := x3.toInt) (Y := 3) rfl (by decide) (by omega) (by decide)
              have bv27 : 0 ≤ v27.toInt ∧ v27.toInt ≤ 2186 := by omega
              refine xi_idiv (pc' := 55) (v := v27) kc_60_54 rfl ev27 (by decide) ?_
              refine xi_istore_n (pc' := 56) (lv' := [(3, .int v27), (4, .int 1), (0, .ref 115), (1, .int x1), (5, .int x5)]) kc_60_55 rfl rfl (xm_lt ml_60 rfl) ?_
              refine xcps2 (α := Int32) (x5 + 1) (fun v28 ev28 => ?_)
              have zv28 : v28.toInt = (x5.toInt + 1) := by rw [← ev28]; exact (xz_add (X := x5.toInt) (Y := 1) rfl (by decide) (by omega) (by omega)).trans (by omega)
              refine xi_iinc (pc' := 59) (x := x5) (v := v28) (lv' := [(5, .int v28), (3, .int v27), (4, .int 1), (0, .ref 115), (1, .int x1)]) kc_60_56 rfl rfl ev28 rfl (xm_lt ml_60 rfl) ?_
              refine xi_goto (pc' := 12) kc_60_59 rfl ?_
              have zc1 : (1 : Int32).toInt = 1 := by decide
              refine xw_lv (b := [(0, .ref 115), (1, .int x1), (3, .int v27), (4, .int 1), (5, .int v28)]) (lvS_cons (lvS_cons (lvS_cons (lvS_cons (lvS_cons (lvS_nil (show ([5, 3, 4, 0, 1] : List Nat).Nodup by decide)) rfl) rfl) rfl) rfl) rfl) ?_
              exact i0 x1 v27 1 v28 h (by omega) (by omega) (by omega) (by omega) K (by omega)
            · refine xi_cmt (pc' := 49) kc_60_42 rfl (xc_ne_t (X := v18.toInt) (Y := 2) rfl (by decide) (by omega)) ?_
              refine xi_iconst (pc' := 50) (v := 0) kc_60_49 rfl rfl ?_
              refine xi_istore (pc' := 52) (lv' := [(4, .int 0), (0, .ref 115), (1, .int x1), (3, .int x3), (5, .int x5)]) kc_60_50 rfl rfl (xm_lt ml_60 rfl) ?_
              refine xi_iload_n (pc' := 53) (x := x3) kc_60_52 rfl rfl ?_
              refine xi_iconst (pc' := 54) (v := 3) kc_60_53 rfl rfl ?_
              refine xcps2 (α := Int32) (x3 / 3) (fun v29 ev29 => ?_)
              have dv29 : v29.toInt = x3.toInt / 3 := by rw [← ev29]; exact xz_dive (X := x3.toInt) (Y := 3) rfl (by decide) (by omega) (by decide)
              have bv29 : 0 ≤ v29.toInt ∧ v29.toInt ≤ 2186 := by omega
              refine xi_idiv (pc' := 55) (v := v29) kc_60_54 rfl ev29 (by decide) ?_
              refine xi_istore_n (pc' := 56) (lv' := [(3, .int v29), (4, .int 0), (0, .ref 115), (1, .int x1), (5, .int x5)]) kc_60_55 rfl rfl (xm_lt ml_60 rfl) ?_
              refine xcps2 (α := Int32) (x5 + 1) (fun v30 ev30 => ?_)
              have zv30 : v30.toInt = (x5.toInt + 1) := by rw [← ev30]; exact (xz_add (X := x5.toInt) (Y := 1) rfl (by decide) (by omega) (by omega)).trans (by omega)
              refine xi_iinc (pc' := 59) (x := x5) (v := v30) (lv' := [(5, .int v30), (3, .int v29), (4, .int 0), (0, .ref 115), (1, .int x1)]) kc_60_56 rfl rfl ev30 rfl (xm_lt ml_60 rfl) ?_
              refine xi_goto (pc' := 12) kc_60_59 rfl ?_
              have zc0 : (0 : Int32).toInt = 0 := by decide
              refine xw_lv (b := [(0, .ref 115), (1, .int x1), (3, .int v29), (4, .int 0), (5, .int v30)]) (lvS_cons (lvS_cons (lvS_cons (lvS_cons (lvS_cons (lvS_nil (show ([5, 3, 4, 0, 1] : List Nat).Nodup by decide)) rfl) rfl) rfl) rfl) rfl) ?_
              exact i0 x1 v29 0 v30 h (by omega) (by omega) (by omega) (by omega) K (by omega)
          · refine xi_iff (pc' := 11) kc_54_8 rfl (xc_eq_f (X := v24.toInt) (Y := 0) rfl (by decide) (by omega)) ?_
            refine xi_iconst (pc' := 12) (v := 1) kc_54_11 rfl rfl ?_
            refine xi_goto (pc' := 16) kc_54_12 rfl ?_
            refine xi_ireturn kc_54_16 mr_54 rfl ?_
            show xw J ov (d + 2) 60 (42, [(0, .ref 115), (1, .int x1), (3, .int x3), (4, .int x4), (5, .int x5)], [.int 1, .int v18], h) _
            by_cases c31 : v18.toInt = 1
            · refine xi_cmf (pc' := 45) kc_60_42 rfl (xc_ne_f (X := v18.toInt) (Y := 1) rfl (by decide) (by omega)) ?_
              refine xi_iconst (pc' := 46) (v := 1) kc_60_45 rfl rfl ?_
              refine xi_goto (pc' := 50) kc_60_46 rfl ?_
              refine xi_istore (pc' := 52) (lv' := [(4, .int 1), (0, .ref 115), (1, .int x1), (3, .int x3), (5, .int x5)]) kc_60_50 rfl rfl (xm_lt ml_60 rfl) ?_
              refine xi_iload_n (pc' := 53) (x := x3) kc_60_52 rfl rfl ?_
              refine xi_iconst (pc' := 54) (v := 3) kc_60_53 rfl rfl ?_
              refine xcps2 (α := Int32) (x3 / 3) (fun v32 ev32 => ?_)
              have dv32 : v32.toInt = x3.toInt / 3 := by rw [← ev32]; exact xz_dive (X := x3.toInt) (Y := 3) rfl (by decide) (by omega) (by decide)
              have bv32 : 0 ≤ v32.toInt ∧ v32.toInt ≤ 2186 := by omega
              refine xi_idiv (pc' := 55) (v := v32) kc_60_54 rfl ev32 (by decide) ?_
              refine xi_istore_n (pc' := 56) (lv' := [(3, .int v32), (4, .int 1), (0, .ref 115), (1, .int x1), (5, .int x5)]) kc_60_55 rfl rfl (xm_lt ml_60 rfl) ?_
              refine xcps2 (α := Int32) (x5 + 1) (fun v33 ev33 => ?_)
              have zv33 : v33.toInt = (x5.toInt + 1) := by rw [← ev33]; exact (xz_add (X := x5.toInt) (Y := 1) rfl (by decide) (by omega) (by omega)).trans (by omega)
              refine xi_iinc (pc' := 59) (x := x5) (v := v33) (lv' := [(5, .int v33), (3, .int v32), (4, .int 1), (0, .ref 115), (1, .int x1)]) kc_60_56 rfl rfl ev33 rfl (xm_lt ml_60 rfl) ?_
              refine xi_goto (pc' := 12) kc_60_59 rfl ?_
              have zc1 : (1 : Int32).toInt = 1 := by decide
              refine xw_lv (b := [(0, .ref 115), (1, .int x1), (3, .int v32), (4, .int 1), (5, .int v33)]) (lvS_cons (lvS_cons (lvS_cons (lvS_cons (lvS_cons (lvS_nil (show ([5, 3, 4, 0, 1] : List Nat).Nodup by decide)) rfl) rfl) rfl) rfl) rfl) ?_
              exact i0 x1 v32 1 v33 h (by omega) (by omega) (by omega) (by omega) K (by omega)
            · refine xi_cmt (pc' := 49) kc_60_42 rfl (xc_ne_t (X := v18.toInt) (Y := 1) rfl (by decide) (by omega)) ?_
              refine xi_iconst (pc' := 50) (v := 0) kc_60_49 rfl rfl ?_
              refine xi_istore (pc' := 52) (lv' := [(4, .int 0), (0, .ref 115), (1, .int x1), (3, .int x3), (5, .int x5)]) kc_60_50 rfl rfl (xm_lt ml_60 rfl) ?_
              refine xi_iload_n (pc' := 53) (x := x3) kc_60_52 rfl rfl ?_
              refine xi_iconst (pc' := 54) (v := 3) kc_60_53 rfl rfl ?_
              refine xcps2 (α := Int32) (x3 / 3) (fun v34 ev34 => ?_)
              have dv34 : v34.toInt = x3.toInt / 3 := by rw [← ev34]; exact xz_dive (X := x3.toInt) (Y := 3) rfl (by decide) (by omega) (by decide)
              have bv34 : 0 ≤ v34.toInt ∧ v34.toInt ≤ 2186 := by omega
              refine xi_idiv (pc' := 55) (v := v34) kc_60_54 rfl ev34 (by decide) ?_
              refine xi_istore_n (pc' := 56) (lv' := [(3, .int v34), (4, .int 0), (0, .ref 115), (1, .int x1), (5, .int x5)]) kc_60_55 rfl rfl (xm_lt ml_60 rfl) ?_
              refine xcps2 (α := Int32) (x5 + 1) (fun v35 ev35 => ?_)
              have zv35 : v35.toInt = (x5.toInt + 1) := by rw [← ev35]; exact (xz_add (X := x5.toInt) (Y := 1) rfl (by decide) (by omega) (by omega)).trans (by omega)
              refine xi_iinc (pc' := 59) (x := x5) (v := v35) (lv' := [(5, .int v35), (3, .int v34), (4, .int 0), (0, .ref 115), (1, .int x1)]) kc_60_56 rfl rfl ev35 rfl (xm_lt ml_60 rfl) ?_
              refine xi_goto (pc' := 12) kc_60_59 rfl ?_
              have zc0 : (0 : Int32).toInt = 0 := by decide
              refine xw_lv (b := [(0, .ref 115), (1, .int x1), (3, .int v34), (4, .int 0), (5, .int v35)]) (lvS_cons (lvS_cons (lvS_cons (lvS_cons (lvS_cons (lvS_nil (show ([5, 3, 4, 0, 1] : List Nat).Nodup by decide)) rfl) rfl) rfl) rfl) rfl) ?_
              exact i0 x1 v34 0 v35 h (by omega) (by omega) (by omega) (by omega) K (by omega)
set_option maxHeartbeats 4000000 in
theorem mt_60_0 {J : xe_J} {ov : List (List Int32)} (hJ : ∀ d mj as h, mj ≠ xe_loff → J d mj as h = none) (hov1 : ov[1]? = some [10, 0, 0, 0, 0, 0]) (hov2 : ov[2]? = some [99, 30, 50, 50, 1, 99999]) {d : Nat} {Q : Option Value → xe_H → Prop} {h : xe_H} {x1 : Int32} {x2 : Int32} (T : xt h) (b1 : (0 ≤ x1.toInt ∧ x1.toInt ≤ 63)) (b2 : (0 ≤ x2.toInt ∧ x2.toInt ≤ 6560)) (kk : (∀ (r : Int32) (h' : xe_H), (0 ≤ r.toInt ∧ r.toInt ≤ 1) → xk [(0, 9), (115, 1), (83, 0), (29, 0), (31, 0), (33, 0), (35, 0), (37, 0), (39, 0), (41, 0), (43, 0), (45, 0), (47, 0), (49, 0), (51, 0), (125, 0), (29, 2), (31, 2), (33, 2), (35, 2), (37, 2), (39, 2), (41, 2), (43, 2), (45, 2), (47, 2), (49, 2), (51, 2), (127, 0), (1, 5), (115, 23)] h h' → Q (some (.int r)) h')) : xw J ov (d + 2) 60 (0, [(0, .ref 115), (1, .int x1), (2, .int x2)], [], h) Q := by
  have K : xk [(0, 9), (115, 1), (83, 0), (29, 0), (31, 0), (33, 0), (35, 0), (37, 0), (39, 0), (41, 0), (43, 0), (45, 0), (47, 0), (49, 0), (51, 0), (125, 0), (29, 2), (31, 2), (33, 2), (35, 2), (37, 2), (39, 2), (41, 2), (43, 2), (45, 2), (47, 2), (49, 2), (51, 2), (127, 0), (1, 5), (115, 23)] h h := xk_re T
  refine xi_iload_n (pc' := 1) (x := x2) kc_60_0 rfl rfl ?_
  refine xi_istore_n (pc' := 2) (lv' := [(3, .int x2), (0, .ref 115), (1, .int x1), (2, .int x2)]) kc_60_1 rfl rfl (xm_lt ml_60 rfl) ?_
  refine xi_aload_n (pc' := 3) (x := 115) kc_60_2 rfl rfl ?_
  refine xi_iload_n (pc' := 4) (x := x1) kc_60_3 rfl rfl ?_
  refine xp_115 K.1 (fun u1 u2 u3 u4 u5 u6 u7 u8 u9 u10 u11 u12 u13 bu1 bu2 bu3 bu4 bu5 bu6 bu7 bu8 bu9 bu10 bu11 bu12 bu13 A14 => ?_)
  refine xi_virtual (mj := 53) (as := [.int x1]) (st1 := []) (lv0 := [(0, .ref 115), (1, .int x1)]) kc_60_4 rfl rfl rfl rfl rfl A14 (Nat.le_of_ble_eq_true rfl) (hJ _ _ _ _ (by decide)) (xm_le ml_53 rfl) rfl ?_
  refine mt_53_0 hJ hov1 hov2 (d := d) (x1 := x1) K.1 (by first | omega | decide) (fun r15 hh16 br15 K17 => ?_)
  have K18 := xk_tr K K17 rfl
  refine xp_115 K18.1 (fun u19 u20 u21 u22 u23 u24 u25 u26 u27 u28 u29 u30 u31 bu19 bu20 bu21 bu22 bu23 bu24 bu25 bu26 bu27 bu28 bu29 bu30 bu31 A32 => ?_)
  have e33 : u2 = u20 := xk_eqi (q := 1) K17 rfl A14 A32 rfl rfl
  subst e33
  have e34 : u5 = u23 := xk_eqi (q := 23) K17 rfl A14 A32 rfl rfl
  subst e34
  show xw J ov (d + 2) 60 (7, [(3, .int x2), (0, .ref 115), (1, .int x1), (2, .int x2)], [.int r15], hh16) _
  refine xi_istore (pc' := 9) (lv' := [(4, .int r15), (3, .int x2), (0, .ref 115), (1, .int x1), (2, .int x2)]) kc_60_7 rfl rfl (xm_lt ml_60 rfl) ?_
  refine xi_iconst (pc' := 10) (v := 0) kc_60_9 rfl rfl ?_
  refine xi_istore (pc' := 12) (lv' := [(5, .int 0), (4, .int r15), (3, .int x2), (0, .ref 115), (1, .int x1), (2, .int x2)]) kc_60_10 rfl rfl (xm_lt ml_60 rfl) ?_
  have zc0 : (0 : Int32).toInt = 0 := by decide
  refine xw_lv (b := [(0, .ref 115), (1, .int x1), (3, .int x2), (4, .int r15), (5, .int 0)]) (lvS_cons (lvS_cons (lvS_cons (lvS_cons (lvS_cons (lvS_nil (show ([5, 4, 3, 0, 1, 2] : List Nat).Nodup by decide)) rfl) rfl) rfl) rfl) rfl) ?_
  exact (lp_60_0 hJ hov1 hov2 (d := d) (hb := hh16) (fun r9 h9 b9 K9 => kk r9 h9 b9 (xk_tr K18 K9 rfl)) 9) x1 x2 r15 0 hh16 (by omega) (by omega) (by omega) (by omega) (xk_re K18.1) (by omega)
set_option maxHeartbeats 4000000 in
theorem lp_59_0 {J : xe_J} {ov : List (List Int32)} (hJ : ∀ d mj as h, mj ≠ xe_loff → J d mj as h = none) (hov1 : ov[1]? = some [10, 0, 0, 0, 0, 0]) (hov2 : ov[2]? = some [99, 30, 50, 50, 1, 99999]) {d : Nat} {Q : Option Value → xe_H → Prop} {hb : xe_H} (kk : (∀ (r : Int32) (h' : xe_H), (0 ≤ r.toInt ∧ r.toInt ≤ 1) → xk [(0, 9), (115, 1), (83, 0), (29, 0), (31, 0), (33, 0), (35, 0), (37, 0), (39, 0), (41, 0), (43, 0), (45, 0), (47, 0), (49, 0), (51, 0), (125, 0), (29, 2), (31, 2), (33, 2), (35, 2), (37, 2), (39, 2), (41, 2), (43, 2), (45, 2), (47, 2), (49, 2), (51, 2), (127, 0), (1, 5), (115, 23)] hb h' → Q (some (.int r)) h')) : ∀ m : Nat, (∀ (x1 : Int32) (x2 : Int32) (x3 : Int32) (x4 : Int32) (x5 : Int32) (h : xe_H), (0 ≤ x1.toInt ∧ x1.toInt ≤ 6560) → (0 ≤ x2.toInt ∧ x2.toInt ≤ 7) → (0 ≤ x3.toInt ∧ x3.toInt ≤ 1) → (0 ≤ x4.toInt ∧ x4.toInt ≤ 1) → (0 ≤ x5.toInt ∧ x5.toInt ≤ 64) → xk [(0, 9), (115, 1), (83, 0), (29, 0), (31, 0), (33, 0), (35, 0), (37, 0), (39, 0), (41, 0), (43, 0), (45, 0), (47, 0), (49, 0), (51, 0), (125, 0), (29, 2), (31, 2), (33, 2), (35, 2), (37, 2), (39, 2), (41, 2), (43, 2), (45, 2), (47, 2), (49, 2), (51, 2), (127, 0), (1, 5), (115, 23)] hb h → (-1) * x5.toInt + 64 < (m : Int) → xw J ov (d + 3) 59 (8, [(0, .ref 115), (1, .int x1), (2, .int x2), (3, .int x3), (4, .int x4), (5, .int x5)], [], h) Q) := by
  intro m
  induction m with
  | zero =>
    intro x1 x2 x3 x4 x5 h b1 b2 b3 b4 b5 K hm; exfalso; omega
  | succ m ih =>
    have i0 := ih
    intro x1 x2 x3 x4 x5 h b1 b2 b3 b4 b5 K hm
    refine xi_iload (pc' := 10) (x := x5) kc_59_8 rfl rfl ?_
    refine xi_aload_n (pc' := 11) (x := 115) kc_59_10 rfl rfl ?_
    refine xp_115 K.1 (fun u1 u2 u3 u4 u5 u6 u7 u8 u9 u10 u11 u12 u13 bu1 bu2 bu3 bu4 bu5 bu6 bu7 bu8 bu9 bu10 bu11 bu12 bu13 A14 => ?_)
    refine xi_virtual (mj := 42) (as := []) (st1 := [.int x5]) (lv0 := [(0, .ref 115)]) kc_59_11 rfl rfl rfl rfl rfl A14 (Nat.le_of_ble_eq_true rfl) (hJ _ _ _ _ (by decide)) (xm_le ml_42 rfl) rfl ?_
    refine xi_iconst (pc' := 1) (v := 1) kc_42_0 rfl rfl ?_
    refine xi_aload_n (pc' := 2) (x := 115) kc_42_1 rfl rfl ?_
    refine xi_getfield (pc' := 5) (v := .int u5) kc_42_2 rfl rfl rfl A14 rfl ?_
    refine xi_bipush (pc' := 7) (v := 6) kc_42_5 rfl rfl ?_
    by_cases c15 : 6 ≤ u5.toInt
    · refine xi_cmt (pc' := 17) kc_42_7 rfl (xc_ge_t (X := u5.toInt) (Y := 6) rfl (by decide) (by omega)) ?_
      refine xi_bipush (pc' := 19) (v := 6) kc_42_17 rfl rfl ?_
      refine xi_ishl (pc' := 20) (v := 64) kc_42_19 rfl rfl ?_
      refine xi_ireturn kc_42_20 mr_42 rfl ?_
      show xw J ov (d + 3) 59 (14, [(0, .ref 115), (1, .int x1), (2, .int x2), (3, .int x3), (4, .int x4), (5, .int x5)], [.int 64, .int x5], h) _
      by_cases c16 : 64 ≤ x5.toInt
      · refine xi_cmt (pc' := 86) kc_59_14 rfl (xc_ge_t (X := x5.toInt) (Y := 64) rfl (by decide) (by omega)) ?_
        refine xi_iload_n (pc' := 87) (x := x3) kc_59_86 rfl rfl ?_
        by_cases c17 : x3.toInt = 0
        · refine xi_ift (pc' := 99) kc_59_87 rfl (xc_eq_t (X := x3.toInt) (Y := 0) rfl (by decide) (by omega)) ?_
          refine xi_iconst (pc' := 100) (v := 0) kc_59_99 rfl rfl ?_
          refine xi_ireturn kc_59_100 mr_59 rfl ?_
          have zc0 : (0 : Int32).toInt = 0 := by decide
          exact kk 0 h (by omega) K
        · refine xi_iff (pc' := 90) kc_59_87 rfl (xc_eq_f (X := x3.toInt) (Y := 0) rfl (by decide) (by omega)) ?_
          refine xi_iload (pc' := 92) (x := x4) kc_59_90 rfl rfl ?_
          by_cases c18 : x4.toInt = 0
          · refine xi_ift (pc' := 99) kc_59_92 rfl (xc_eq_t (X := x4.toInt) (Y := 0) rfl (by decide) (by omega)) ?_
            refine xi_iconst (pc' := 100) (v := 0) kc_59_99 rfl rfl ?_
            refine xi_ireturn kc_59_100 mr_59 rfl ?_
            have zc0 : (0 : Int32).toInt = 0 := by decide
            exact kk 0 h (by omega) K
          · refine xi_iff (pc' := 95) kc_59_92 rfl (xc_eq_f (X := x4.toInt) (Y := 0) rfl (by decide) (by omega)) ?_
            refine xi_iconst (pc' := 96) (v := 1) kc_59_95 rfl rfl ?_
            refine xi_goto (pc' := 100) kc_59_96 rfl ?_
            refine xi_ireturn kc_59_100 mr_59 rfl ?_
            have zc1 : (1 : Int32).toInt = 1 := by decide
            exact kk 1 h (by omega) K
      · refine xi_cmf (pc' := 17) kc_59_14 rfl (xc_ge_f (X := x5.toInt) (Y := 64) rfl (by decide) (by omega)) ?_
        refine xi_iload_n (pc' := 18) (x := x3) kc_59_17 rfl rfl ?_
        by_cases c19 : x3.toInt = 0
        · refine xi_ift (pc' := 26) kc_59_18 rfl (xc_eq_t (X := x3.toInt) (Y := 0) rfl (by decide) (by omega)) ?_
          refine xi_aload_n (pc' := 27) (x := 115) kc_59_26 rfl rfl ?_
          refine xi_iload (pc' := 29) (x := x5) kc_59_27 rfl rfl ?_
          refine xi_iload_n (pc' := 30) (x := x1) kc_59_29 rfl rfl ?_
          refine xi_virtual (mj := 60) (as := [.int x5, .int x1]) (st1 := []) (lv0 := [(0, .ref 115), (1, .int x5), (2, .int x1)]) kc_59_30 rfl rfl rfl rfl rfl A14 (Nat.le_of_ble_eq_true rfl) (hJ _ _ _ _ (by decide)) (xm_le ml_60 rfl) rfl ?_
          refine mt_60_0 hJ hov1 hov2 (d := d) (x1 := x5) (x2 := x1) K.1 (by first | omega | decide) (by first | omega | decide) (fun r20 hh21 br20 K22 => ?_)
          have K23 := xk_tr K K22 rfl
          refine xp_115 K23.1 (fun u24 u25 u26 u27 u28 u29 u30 u31 u32 u33 u34 u35 u36 bu24 bu25 bu26 bu27 bu28 bu29 bu30 bu31 bu32 bu33 bu34 bu35 bu36 A37 => ?_)
          have e38 : u2 = u25 := xk_eqi (q := 1) K22 rfl A14 A37 rfl rfl
          subst e38
          have e39 : u5 = u28 := xk_eqi (q := 23) K22 rfl A14 A37 rfl rfl
          subst e39
          show xw J ov (d + 3) 59 (33, [(0, .ref 115), (1, .int x1), (2, .int x2), (3, .int x3), (4, .int x4), (5, .int x5)], [.int r20], hh21) _
          by_cases c40 : r20.toInt = 0
          · refine xi_ift (pc' := 80) kc_59_33 rfl (xc_eq_t (X := r20.toInt) (Y := 0) rfl (by decide) (by omega)) ?_
            refine xcps2 (α := Int32) (x5 + 1) (fun v41 ev41 => ?_)
            have zv41 : v41.toInt = (x5.toInt + 1) := by rw [← ev41]; exact (xz_add (X := x5.toInt) (Y := 1) rfl (by decide) (by omega) (by omega)).trans (by omega)
            refine xi_iinc (pc' := 83) (x := x5) (v := v41) (lv' := [(5, .int v41), (0, .ref 115), (1, .int x1), (2, .int x2), (3, .int x3), (4, .int x4)]) kc_59_80 rfl rfl ev41 rfl (xm_lt ml_59 rfl) ?_
            refine xi_goto (pc' := 8) kc_59_83 rfl ?_
            refine xw_lv (b := [(0, .ref 115), (1, .int x1), (2, .int x2), (3, .int x3), (4, .int x4), (5, .int v41)]) (lvS_cons (lvS_cons (lvS_cons (lvS_cons (lvS_cons (lvS_cons (lvS_nil (show ([5, 0, 1, 2, 3, 4] : List Nat).Nodup by decide)) rfl) rfl) rfl) rfl) rfl) rfl) ?_
            exact i0 x1 x2 x3 x4 v41 hh21 (by omega) (by omega) (by omega) (by omega) (by omega) K23 (by omega)
          · refine xi_iff (pc' := 36) kc_59_33 rfl (xc_eq_f (X := r20.toInt) (Y := 0) rfl (by decide) (by omega)) ?_
            refine xi_iload_n (pc' := 37) (x := x3) kc_59_36 rfl rfl ?_
            refine xi_iff (pc' := 40) kc_59_37 rfl (xc_ne_f (X := x3.toInt) (Y := 0) rfl (by decide) (by omega)) ?_
            refine xi_aload_n (pc' := 41) (x := 115) kc_59_40 rfl rfl ?_
            refine xi_iload_n (pc' := 42) (x := x2) kc_59_41 rfl rfl ?_
            refine xi_iload (pc' := 44) (x := x5) kc_59_42 rfl rfl ?_
            refine xi_virtual (mj := 54) (as := [.int x2, .int x5]) (st1 := []) (lv0 := [(0, .ref 115), (1, .int x2), (2, .int x5)]) kc_59_44 rfl rfl rfl rfl rfl A37 (Nat.le_of_ble_eq_true rfl) (hJ _ _ _ _ (by decide)) (xm_le ml_54 rfl) rfl ?_
            refine xi_aload_n (pc' := 1) (x := 115) kc_54_0 rfl rfl ?_
            refine xi_getfield (pc' := 4) (v := .ref 152) kc_54_1 rfl rfl rfl A37 rfl ?_
            refine xi_iload_n (pc' := 5) (x := x2) kc_54_4 rfl rfl ?_
            refine xcps4 (xk_arr K23.1 xD_152) (fun y42 A42 hy42 ry42 => ?_)
            refine xcps4 (xj_get hy42 ry42 (i := x2) (by omega) (by omega)) (fun v43 ev43 bv43 dv43 => ?_)
            refine xi_iaload (pc' := 6) (v := v43) kc_54_5 rfl A42 (by decide) rfl (xi_in (by omega) (by rw [hy42]; omega)) ev43 ?_
            refine xi_iload_n (pc' := 7) (x := x5) kc_54_6 rfl rfl ?_
            refine xcps2 (α := Int32) ((v43 : Int32) &&& x5) (fun v44 ev44 => ?_)
            have rv44 := xc_rng v44
            refine xi_iand (pc' := 8) (v := v44) kc_54_7 rfl ev44 ?_
            by_cases c45 : v44.toInt = 0
            · refine xi_ift (pc' := 15) kc_54_8 rfl (xc_eq_t (X := v44.toInt) (Y := 0) rfl (by decide) (by omega)) ?_
              refine xi_iconst (pc' := 16) (v := 2) kc_54_15 rfl rfl ?_
              refine xi_ireturn kc_54_16 mr_54 rfl ?_
              show xw J ov (d + 3) 59 (47, [(0, .ref 115), (1, .int x1), (2, .int x2), (3, .int x3), (4, .int x4), (5, .int x5)], [.int 2], hh21) _
              refine xi_iconst (pc' := 48) (v := 1) kc_59_47 rfl rfl ?_
              refine xi_cmt (pc' := 55) kc_59_48 rfl rfl ?_
              refine xi_iconst (pc' := 56) (v := 0) kc_59_55 rfl rfl ?_
              refine xi_istore_n (pc' := 57) (lv' := [(3, .int 0), (0, .ref 115), (1, .int x1), (2, .int x2), (4, .int x4), (5, .int x5)]) kc_59_56 rfl rfl (xm_lt ml_59 rfl) ?_
              refine xi_iload (pc' := 59) (x := x4) kc_59_57 rfl rfl ?_
              by_cases c46 : x4.toInt = 0
              · refine xi_iff (pc' := 62) kc_59_59 rfl (xc_ne_f (X := x4.toInt) (Y := 0) rfl (by decide) (by omega)) ?_
                refine xi_aload_n (pc' := 63) (x := 115) kc_59_62 rfl rfl ?_
                refine xi_iload_n (pc' := 64) (x := x2) kc_59_63 rfl rfl ?_
                refine xi_iload (pc' := 66) (x := x5) kc_59_64 rfl rfl ?_
                refine xi_virtual (mj := 54) (as := [.int x2, .int x5]) (st1 := []) (lv0 := [(0, .ref 115), (1, .int x2), (2, .int x5)]) kc_59_66 rfl rfl rfl rfl rfl A37 (Nat.le_of_ble_eq_true rfl) (hJ _ _ _ _ (by decide)) (xm_le ml_54 rfl) rfl ?_
                refine xi_aload_n (pc' := 1) (x := 115) kc_54_0 rfl rfl ?_
                refine xi_getfield (pc' := 4) (v := .ref 152) kc_54_1 rfl rfl rfl A37 rfl ?_
                refine xi_iload_n (pc' := 5) (x := x2) kc_54_4 rfl rfl ?_
                refine xi_iaload (pc' := 6) (v := v43) kc_54_5 rfl A42 (by decide) rfl (xi_in (by omega) (by rw [hy42]; omega)) ev43 ?_
                refine xi_iload_n (pc' := 7) (x := x5) kc_54_6 rfl rfl ?_
                refine xi_iand (pc' := 8) (v := v44) kc_54_7 rfl ev44 ?_
                refine xi_ift (pc' := 15) kc_54_8 rfl (xc_eq_t (X := v44.toInt) (Y := 0) rfl (by decide) (by omega)) ?_
                refine xi_iconst (pc' := 16) (v := 2) kc_54_15 rfl rfl ?_
                refine xi_ireturn kc_54_16 mr_54 rfl ?_
                show xw J ov (d + 3) 59 (69, [(3, .int 0), (0, .ref 115), (1, .int x1), (2, .int x2), (4, .int x4), (5, .int x5)], [.int 2], hh21) _
                refine xi_iconst (pc' := 70) (v := 2) kc_59_69 rfl rfl ?_
                refine xi_cmf (pc' := 73) kc_59_70 rfl rfl ?_
                refine xi_iconst (pc' := 74) (v := 1) kc_59_73 rfl rfl ?_
                refine xi_goto (pc' := 78) kc_59_74 rfl ?_
                refine xi_istore (pc' := 80) (lv' := [(4, .int 1), (3, .int 0), (0, .ref 115), (1, .int x1), (2, .int x2), (5, .int x5)]) kc_59_78 rfl rfl (xm_lt ml_59 rfl) ?_
                refine xcps2 (α := Int32) (x5 + 1) (fun v47 ev47 => ?_)
                have zv47 : v47.toInt = (x5.toInt + 1) := by rw [← ev47]; exact (xz_add (X := x5.toInt) (Y := 1) rfl (by decide) (by omega) (by omega)).trans (by omega)
                refine xi_iinc (pc' := 83) (x := x5) (v := v47) (lv' := [(5, .int v47), (4, .int 1), (3, .int 0), (0, .ref 115), (1, .int x1), (2, .int x2)]) kc_59_80 rfl rfl ev47 rfl (xm_lt ml_59 rfl) ?_
                refine xi_goto (pc' := 8) kc_59_83 rfl ?_
                have zc0 : (0 : Int32).toInt = 0 := by decide
                have zc1 : (1 : Int32).toInt = 1 := by decide
                refine xw_lv (b := [(0, .ref 115), (1, .int x1), (2, .int x2), (3, .int 0), (4, .int 1), (5, .int v47)]) (lvS_cons (lvS_cons (lvS_cons (lvS_cons (lvS_cons (lvS_cons (lvS_nil (show ([5, 4, 3, 0, 1, 2] : List Nat).Nodup by decide)) rfl) rfl) rfl) rfl) rfl) rfl) ?_
                exact i0 x1 x2 0 1 v47 hh21 (by omega) (by omega) (by omega) (by omega) (by omega) K23 (by omega)
              · refine xi_ift (pc' := 73) kc_59_59 rfl (xc_ne_t (X := x4.toInt) (Y := 0) rfl (by decide) (by omega)) ?_
                refine xi_iconst (pc' := 74) (v := 1) kc_59_73 rfl rfl ?_
                refine xi_goto (pc' := 78) kc_59_74 rfl ?_
                refine xi_istore (pc' := 80) (lv' := [(4, .int 1), (3, .int 0), (0, .ref 115), (1, .int x1), (2, .int x2), (5, .int x5)]) kc_59_78 rfl rfl (xm_lt ml_59 rfl) ?_
                refine xcps2 (α := Int32) (x5 + 1) (fun v48 ev48 => ?_)
                have zv48 : v48.toInt = (x5.toInt + 1) := by rw [← ev48]; exact (xz_add (X := x5.toInt) (Y := 1) rfl (by decide) (by omega) (by omega)).trans (by omega)
                refine xi_iinc (pc' := 83) (x := x5) (v := v48) (lv' := [(5, .int v48), (4, .int 1), (3, .int 0), (0, .ref 115), (1, .int x1), (2, .int x2)]) kc_59_80 rfl rfl ev48 rfl (xm_lt ml_59 rfl) ?_
                refine xi_goto (pc' := 8) kc_59_83 rfl ?_
                have zc0 : (0 : Int32).toInt = 0 := by decide
                have zc1 : (1 : Int32).toInt = 1 := by decide
                refine xw_lv (b := [(0, .ref 115), (1, .int x1), (2, .int x2), (3, .int 0), (4, .int 1), (5, .int v48)]) (lvS_cons (lvS_cons (lvS_cons (lvS_cons (lvS_cons (lvS_cons (lvS_nil (show ([5, 4, 3, 0, 1, 2] : List Nat).Nodup by decide)) rfl) rfl) rfl) rfl) rfl) rfl) ?_
                exact i0 x1 x2 0 1 v48 hh21 (by omega) (by omega) (by omega) (by omega) (by omega) K23 (by omega)
            · refine xi_iff (pc' := 11) kc_54_8 rfl (xc_eq_f (X := v44.toInt) (Y := 0) rfl (by decide) (by omega)) ?_
              refine xi_iconst (pc' := 12) (v := 1) kc_54_11 rfl rfl ?_
              refine xi_goto (pc' := 16) kc_54_12 rfl ?_
              refine xi_ireturn kc_54_16 mr_54 rfl ?_
              show xw J ov (d + 3) 59 (47, [(0, .ref 115), (1, .int x1), (2, .int x2), (3, .int x3), (4, .int x4), (5, .int x5)], [.int 1], hh21) _
              refine xi_iconst (pc' := 48) (v := 1) kc_59_47 rfl rfl ?_
              refine xi_cmf (pc' := 51) kc_59_48 rfl rfl ?_
              refine xi_iconst (pc' := 52) (v := 1) kc_59_51 rfl rfl ?_
              refine xi_goto (pc' := 56) kc_59_52 rfl ?_
              refine xi_istore_n (pc' := 57) (lv' := [(3, .int 1), (0, .ref 115), (1, .int x1), (2, .int x2), (4, .int x4), (5, .int x5)]) kc_59_56 rfl rfl (xm_lt ml_59 rfl) ?_
              refine xi_iload (pc' := 59) (x := x4) kc_59_57 rfl rfl ?_
              by_cases c49 : x4.toInt = 0
              · refine xi_iff (pc' := 62) kc_59_59 rfl (xc_ne_f (X := x4.toInt) (Y := 0) rfl (by decide) (by omega)) ?_
                refine xi_aload_n (pc' := 63) (x := 115) kc_59_62 rfl rfl ?_
                refine xi_iload_n (pc' := 64) (x := x2) kc_59_63 rfl rfl ?_
                refine xi_iload (pc' := 66) (x := x5) kc_59_64 rfl rfl ?_
                refine xi_virtual (mj := 54) (as := [.int x2, .int x5]) (st1 := []) (lv0 := [(0, .ref 115), (1, .int x2), (2, .int x5)]) kc_59_66 rfl rfl rfl rfl rfl A37 (Nat.le_of_ble_eq_true rfl) (hJ _ _ _ _ (by decide)) (xm_le ml_54 rfl) rfl ?_
                refine xi_aload_n (pc' := 1) (x := 115) kc_54_0 rfl rfl ?_
                refine xi_getfield (pc' := 4) (v := .ref 152) kc_54_1 rfl rfl rfl A37 rfl ?_
                refine xi_iload_n (pc' := 5) (x := x2) kc_54_4 rfl rfl ?_
                refine xi_iaload (pc' := 6) (v := v43) kc_54_5 rfl A42 (by decide) rfl (xi_in (by omega) (by rw [hy42]; omega)) ev43 ?_
                refine xi_iload_n (pc' := 7) (x := x5) kc_54_6 rfl rfl ?_
                refine xi_iand (pc' := 8) (v := v44) kc_54_7 rfl ev44 ?_
                refine xi_iff (pc' := 11) kc_54_8 rfl (xc_eq_f (X := v44.toInt) (Y := 0) rfl (by decide) (by omega)) ?_
                refine xi_iconst (pc' := 12) (v := 1) kc_54_11 rfl rfl ?_
                refine xi_goto (pc' := 16) kc_54_12 rfl ?_
                refine xi_ireturn kc_54_16 mr_54 rfl ?_
                show xw J ov (d + 3) 59 (69, [(3, .int 1), (0, .ref 115), (1, .int x1), (2, .int x2), (4, .int x4), (5, .int x5)], [.int 1], hh21) _
                refine xi_iconst (pc' := 70) (v := 2) kc_59_69 rfl rfl ?_
                refine xi_cmt (pc' := 77) kc_59_70 rfl rfl ?_
                refine xi_iconst (pc' := 78) (v := 0) kc_59_77 rfl rfl ?_
                refine xi_istore (pc' := 80) (lv' := [(4, .int 0), (3, .int 1), (0, .ref 115), (1, .int x1), (2, .int x2), (5, .int x5)]) kc_59_78 rfl rfl (xm_lt ml_59 rfl) ?_
                refine xcps2 (α := Int32) (x5 + 1) (fun v50 ev50 => ?_)
                have zv50 : v50.toInt = (x5.toInt + 1) := by rw [← ev50]; exact (xz_add (X := x5.toInt) (Y := 1) rfl (by decide) (by omega) (by omega)).trans (by omega)
                refine xi_iinc (pc' := 83) (x := x5) (v := v50) (lv' := [(5, .int v50), (4, .int 0), (3, .int 1), (0, .ref 115), (1, .int x1), (2, .int x2)]) kc_59_80 rfl rfl ev50 rfl (xm_lt ml_59 rfl) ?_
                refine xi_goto (pc' := 8) kc_59_83 rfl ?_
                have zc0 : (0 : Int32).toInt = 0 := by decide
                have zc1 : (1 : Int32).toInt = 1 := by decide
                refine xw_lv (b := [(0, .ref 115), (1, .int x1), (2, .int x2), (3, .int 1), (4, .int 0), (5, .int v50)]) (lvS_cons (lvS_cons (lvS_cons (lvS_cons (lvS_cons (lvS_cons (lvS_nil (show ([5, 4, 3, 0, 1, 2] : List Nat).Nodup by decide)) rfl) rfl) rfl) rfl) rfl) rfl) ?_
                exact i0 x1 x2 1 0 v50 hh21 (by omega) (by omega) (by omega) (by omega) (by omega) K23 (by omega)
              · refine xi_ift (pc' := 73) kc_59_59 rfl (xc_ne_t (X := x4.toInt) (Y := 0) rfl (by decide) (by omega)) ?_
                refine xi_iconst (pc' := 74) (v := 1) kc_59_73 rfl rfl ?_
                refine xi_goto (pc' := 78) kc_59_74 rfl ?_
                refine xi_istore (pc' := 80) (lv' := [(4, .int 1), (3, .int 1), (0, .ref 115), (1, .int x1), (2, .int x2), (5, .int x5)]) kc_59_78 rfl rfl (xm_lt ml_59 rfl) ?_
                refine xcps2 (α := Int32) (x5 + 1) (fun v51 ev51 => ?_)
                have zv51 : v51.toInt = (x5.toInt + 1) := by rw [← ev51]; exact (xz_add (X := x5.toInt) (Y := 1) rfl (by decide) (by omega) (by omega)).trans (by omega)
                refine xi_iinc (pc' := 83) (x := x5) (v := v51) (lv' := [(5, .int v51), (4, .int 1), (3, .int 1), (0, .ref 115), (1, .int x1), (2, .int x2)]) kc_59_80 rfl rfl ev51 rfl (xm_lt ml_59 rfl) ?_
                refine xi_goto (pc' := 8) kc_59_83 rfl ?_
                have zc1 : (1 : Int32).toInt = 1 := by decide
                refine xw_lv (b := [(0, .ref 115), (1, .int x1), (2, .int x2), (3, .int 1), (4, .int 1), (5, .int v51)]) (lvS_cons (lvS_cons (lvS_cons (lvS_cons (lvS_cons (lvS_cons (lvS_nil (show ([5, 4, 3, 0, 1, 2] : List Nat).Nodup by decide)) rfl) rfl) rfl) rfl) rfl) rfl) ?_
                exact i0 x1 x2 1 1 v51 hh21 (by omega) (by omega) (by omega) (by omega) (by omega) K23 (by omega)
        · refine xi_iff (pc' := 21) kc_59_18 rfl (xc_eq_f (X := x3.toInt) (Y := 0) rfl (by decide) (by omega)) ?_
          refine xi_iload (pc' := 23) (x := x4) kc_59_21 rfl rfl ?_
          by_cases c52 : x4.toInt = 0
          · refine xi_iff (pc' := 26) kc_59_23 rfl (xc_ne_f (X := x4.toInt) (Y := 0) rfl (by decide) (by omega)) ?_
            refine xi_aload_n (pc' := 27) (x := 115) kc_59_26 rfl rfl ?_
            refine xi_iload (pc' := 29) (x := x5) kc_59_27 rfl rfl ?_
            refine xi_iload_n (pc' := 30) (x := x1) kc_59_29 rfl rfl ?_
            refine xi_virtual (mj := 60) (as := [.int x5, .int x1]) (st1 := []) (lv0 := [(0, .ref 115), (1, .int x5), (2, .int x1)]) kc_59_30 rfl rfl rfl rfl rfl A14 (Nat.le_of_ble_eq_true rfl) (hJ _ _ _ _ (by decide)) (xm_le ml_60 rfl) rfl ?_
            refine mt_60_0 hJ hov1 hov2 (d := d) (x1 := x5) (x2 := x1) K.1 (by first | omega | decide) (by first | omega | decide) (fun r53 hh54 br53 K55 => ?_)
            have K56 := xk_tr K K55 rfl
            refine xp_115 K56.1 (fun u57 u58 u59 u60 u61 u62 u63 u64 u65 u66 u67 u68 u69 bu57 bu58 bu59 bu60 bu61 bu62 bu63 bu64 bu65 bu66 bu67 bu68 bu69 A70 => ?_)
            have e71 : u2 = u58 := xk_eqi (q := 1) K55 rfl A14 A70 rfl rfl
            subst e71
            have e72 : u5 = u61 := xk_eqi (q := 23) K55 rfl A14 A70 rfl rfl
            subst e72
            show xw J ov (d + 3) 59 (33, [(0, .ref 115), (1, .int x1), (2, .int x2), (3, .int x3), (4, .int x4), (5, .int x5)], [.int r53], hh54) _
            by_cases c73 : r53.toInt = 0
            · refine xi_ift (pc' := 80) kc_59_33 rfl (xc_eq_t (X := r53.toInt) (Y := 0) rfl (by decide) (by omega)) ?_
              refine xcps2 (α := Int32) (x5 + 1) (fun v74 ev74 => ?_)
              have zv74 : v74.toInt = (x5.toInt + 1) := by rw [← ev74]; exact (xz_add (X := x5.toInt) (Y := 1) rfl (by decide) (by omega) (by omega)).trans (by omega)
              refine xi_iinc (pc' := 83) (x := x5) (v := v74) (lv' := [(5, .int v74), (0, .ref 115), (1, .int x1), (2, .int x2), (3, .int x3), (4, .int x4)]) kc_59_80 rfl rfl ev74 rfl (xm_lt ml_59 rfl) ?_
              refine xi_goto (pc' := 8) kc_59_83 rfl ?_
              refine xw_lv (b := [(0, .ref 115), (1, .int x1), (2, .int x2), (3, .int x3), (4, .int x4), (5, .int v74)]) (lvS_cons (lvS_cons (lvS_cons (lvS_cons (lvS_cons (lvS_cons (lvS_nil (show ([5, 0, 1, 2, 3, 4] : List Nat).Nodup by decide)) rfl) rfl) rfl) rfl) rfl) rfl) ?_
              exact i0 x1 x2 x3 x4 v74 hh54 (by omega) (by omega) (by omega) (by omega) (by omega) K56 (by omega)
            · refine xi_iff (pc' := 36) kc_59_33 rfl (xc_eq_f (X := r53.toInt) (Y := 0) rfl (by decide) (by omega)) ?_
              refine xi_iload_n (pc' := 37) (x := x3) kc_59_36 rfl rfl ?_
              refine xi_ift (pc' := 51) kc_59_37 rfl (xc_ne_t (X := x3.toInt) (Y := 0) rfl (by decide) (by omega)) ?_
              refine xi_iconst (pc' := 52) (v := 1) kc_59_51 rfl rfl ?_
              refine xi_goto (pc' := 56) kc_59_52 rfl ?_
              refine xi_istore_n (pc' := 57) (lv' := [(3, .int 1), (0, .ref 115), (1, .int x1), (2, .int x2), (4, .int x4), (5, .int x5)]) kc_59_56 rfl rfl (xm_lt ml_59 rfl) ?_
              refine xi_iload (pc' := 59) (x := x4) kc_59_57 rfl rfl ?_
              refine xi_iff (pc' := 62) kc_59_59 rfl (xc_ne_f (X := x4.toInt) (Y := 0) rfl (by decide) (by omega)) ?_
              refine xi_aload_n (pc' := 63) (x := 115) kc_59_62 rfl rfl ?_
              refine xi_iload_n (pc' := 64) (x := x2) kc_59_63 rfl rfl ?_
              refine xi_iload (pc' := 66) (x := x5) kc_59_64 rfl rfl ?_
              refine xi_virtual (mj := 54) (as := [.int x2, .int x5]) (st1 := []) (lv0 := [(0, .ref 115), (1, .int x2), (2, .int x5)]) kc_59_66 rfl rfl rfl rfl rfl A70 (Nat.le_of_ble_eq_true rfl) (hJ _ _ _ _ (by decide)) (xm_le ml_54 rfl) rfl ?_
              refine xi_aload_n (pc' := 1) (x := 115) kc_54_0 rfl rfl ?_
              refine xi_getfield (pc' := 4) (v := .ref 152) kc_54_1 rfl rfl rfl A70 rfl ?_
              refine xi_iload_n (pc' := 5) (x := x2) kc_54_4 rfl rfl ?_
              refine xcps4 (xk_arr K56.1 xD_152) (fun y75 A75 hy75 ry75 => ?_)
              refine xcps4 (xj_get hy75 ry75 (i := x2) (by omega) (by omega)) (fun v76 ev76 bv76 dv76 => ?_)
              refine xi_iaload (pc' := 6) (v := v76) kc_54_5 rfl A75 (by decide) rfl (xi_in (by omega) (by rw [hy75]; omega)) ev76 ?_
              refine xi_iload_n (pc' := 7) (x := x5) kc_54_6 rfl rfl ?_
              refine xcps2 (α := Int32) ((v76 : Int32) &&& x5) (fun v77 ev77 => ?_)
              have rv77 := xc_rng v77
              refine xi_iand (pc' := 8) (v := v77) kc_54_7 rfl ev77 ?_
              by_cases c78 : v77.toInt = 0
              · refine xi_ift (pc' := 15) kc_54_8 rfl (xc_eq_t (X := v77.toInt) (Y := 0) rfl (by decide) (by omega)) ?_
                refine xi_iconst (pc' := 16) (v := 2) kc_54_15 rfl rfl ?_
                refine xi_ireturn kc_54_16 mr_54 rfl ?_
                show xw J ov (d + 3) 59 (69, [(3, .int 1), (0, .ref 115), (1, .int x1), (2, .int x2), (4, .int x4), (5, .int x5)], [.int 2], hh54) _
                refine xi_iconst (pc' := 70) (v := 2) kc_59_69 rfl rfl ?_
                refine xi_cmf (pc' := 73) kc_59_70 rfl rfl ?_
                refine xi_iconst (pc' := 74) (v := 1) kc_59_73 rfl rfl ?_
                refine xi_goto (pc' := 78) kc_59_74 rfl ?_
                refine xi_istore (pc' := 80) (lv' := [(4, .int 1), (3, .int 1), (0, .ref 115), (1, .int x1), (2, .int x2), (5, .int x5)]) kc_59_78 rfl rfl (xm_lt ml_59 rfl) ?_
                refine xcps2 (α := Int32) (x5 + 1) (fun v79 ev79 => ?_)
                have zv79 : v79.toInt = (x5.toInt + 1) := by rw [← ev79]; exact (xz_add (X := x5.toInt) (Y := 1) rfl (by decide) (by omega) (by omega)).trans (by omega)
                refine xi_iinc (pc' := 83) (x := x5) (v := v79) (lv' := [(5, .int v79), (4, .int 1), (3, .int 1), (0, .ref 115), (1, .int x1), (2, .int x2)]) kc_59_80 rfl rfl ev79 rfl (xm_lt ml_59 rfl) ?_
                refine xi_goto (pc' := 8) kc_59_83 rfl ?_
                have zc1 : (1 : Int32).toInt = 1 := by decide
                refine xw_lv (b := [(0, .ref 115), (1, .int x1), (2, .int x2), (3, .int 1), (4, .int 1), (5, .int v79)]) (lvS_cons (lvS_cons (lvS_cons (lvS_cons (lvS_cons (lvS_cons (lvS_nil (show ([5, 4, 3, 0, 1, 2] : List Nat).Nodup by decide)) rfl) rfl) rfl) rfl) rfl) rfl) ?_
                exact i0 x1 x2 1 1 v79 hh54 (by omega) (by omega) (by omega) (by omega) (by omega) K56 (by omega)
              · refine xi_iff (pc' := 11) kc_54_8 rfl (xc_eq_f (X := v77.toInt) (Y := 0) rfl (by decide) (by omega)) ?_
                refine xi_iconst (pc' := 12) (v := 1) kc_54_11 rfl rfl ?_
                refine xi_goto (pc' := 16) kc_54_12 rfl ?_
                refine xi_ireturn kc_54_16 mr_54 rfl ?_
                show xw J ov (d + 3) 59 (69, [(3, .int 1), (0, .ref 115), (1, .int x1), (2, .int x2), (4, .int x4), (5, .int x5)], [.int 1], hh54) _
                refine xi_iconst (pc' := 70) (v := 2) kc_59_69 rfl rfl ?_
                refine xi_cmt (pc' := 77) kc_59_70 rfl rfl ?_
                refine xi_iconst (pc' := 78) (v := 0) kc_59_77 rfl rfl ?_
                refine xi_istore (pc' := 80) (lv' := [(4, .int 0), (3, .int 1), (0, .ref 115), (1, .int x1), (2, .int x2), (5, .int x5)]) kc_59_78 rfl rfl (xm_lt ml_59 rfl) ?_
                refine xcps2 (α := Int32) (x5 + 1) (fun v80 ev80 => ?_)
                have zv80 : v80.toInt = (x5.toInt + 1) := by rw [← ev80]; exact (xz_add (X := x5.toInt) (Y := 1) rfl (by decide) (by omega) (by omega)).trans (by omega)
                refine xi_iinc (pc' := 83) (x := x5) (v := v80) (lv' := [(5, .int v80), (4, .int 0), (3, .int 1), (0, .ref 115), (1, .int x1), (2, .int x2)]) kc_59_80 rfl rfl ev80 rfl (xm_lt ml_59 rfl) ?_
                refine xi_goto (pc' := 8) kc_59_83 rfl ?_
                have zc0 : (0 : Int32).toInt = 0 := by decide
                have zc1 : (1 : Int32).toInt = 1 := by decide
                refine xw_lv (b := [(0, .ref 115), (1, .int x1), (2, .int x2), (3, .int 1), (4, .int 0), (5, .int v80)]) (lvS_cons (lvS_cons (lvS_cons (lvS_cons (lvS_cons (lvS_cons (lvS_nil (show ([5, 4, 3, 0, 1, 2] : List Nat).Nodup by decide)) rfl) rfl) rfl) rfl) rfl) rfl) ?_
                exact i0 x1 x2 1 0 v80 hh54 (by omega) (by omega) (by omega) (by omega) (by omega) K56 (by omega)
          · refine xi_ift (pc' := 86) kc_59_23 rfl (xc_ne_t (X := x4.toInt) (Y := 0) rfl (by decide) (by omega)) ?_
            refine xi_iload_n (pc' := 87) (x := x3) kc_59_86 rfl rfl ?_
            refine xi_iff (pc' := 90) kc_59_87 rfl (xc_eq_f (X := x3.toInt) (Y := 0) rfl (by decide) (by omega)) ?_
            refine xi_iload (pc' := 92) (x := x4) kc_59_90 rfl rfl ?_
            refine xi_iff (pc' := 95) kc_59_92 rfl (xc_eq_f (X := x4.toInt) (Y := 0) rfl (by decide) (by omega)) ?_
            refine xi_iconst (pc' := 96) (v := 1) kc_59_95 rfl rfl ?_
            refine xi_goto (pc' := 100) kc_59_96 rfl ?_
            refine xi_ireturn kc_59_100 mr_59 rfl ?_
            have zc1 : (1 : Int32).toInt = 1 := by decide
            exact kk 1 h (by omega) K
    · refine xi_cmf (pc' := 10) kc_42_7 rfl (xc_ge_f (X := u5.toInt) (Y := 6) rfl (by decide) (by omega)) ?_
      refine xi_aload_n (pc' := 11) (x := 115) kc_42_10 rfl rfl ?_
      refine xi_getfield (pc' := 14) (v := .int u5) kc_42_11 rfl rfl rfl A14 rfl ?_
      refine xi_goto (pc' := 19) kc_42_14 rfl ?_
      refine xcps2 (α := Int32) ((1 : Int32) <<< (u5 &&& 31)) (fun v81 ev81 => ?_)
      have rv81 := xc_rng v81
      have bv81 : 1 ≤ v81.toInt ∧ v81.toInt ≤ 64 := by rw [← ev81]; exact xj_shl6 (by omega) (by omega)
      refine xi_ishl (pc' := 20) (v := v81) kc_42_19 rfl ev81 ?_
      refine xi_ireturn kc_42_20 mr_42 rfl ?_
      show xw J ov (d + 3) 59 (14, [(0, .ref 115), (1, .int x1), (2, .int x2), (3, .int x3), (4, .int x4), (5, .int x5)], [.int v81, .int x5], h) _
      by_cases c82 : v81.toInt ≤ x5.toInt
      · refine xi_cmt (pc' := 86) kc_59_14 rfl (xc_ge_t (X := x5.toInt) (Y := v81.toInt) rfl rfl (by omega)) ?_
        refine xi_iload_n (pc' := 87) (x := x3) kc_59_86 rfl rfl ?_
        by_cases c83 : x3.toInt = 0
        · refine xi_ift (pc' := 99) kc_59_87 rfl (xc_eq_t (X := x3.toInt) (Y := 0) rfl (by decide) (by omega)) ?_
          refine xi_iconst (pc' := 100) (v := 0) kc_59_99 rfl rfl ?_
          refine xi_ireturn kc_59_100 mr_59 rfl ?_
          have zc0 : (0 : Int32).toInt = 0 := by decide
          exact kk 0 h (by omega) K
        · refine xi_iff (pc' := 90) kc_59_87 rfl (xc_eq_f (X := x3.toInt) (Y := 0) rfl (by decide) (by omega)) ?_
          refine xi_iload (pc' := 92) (x := x4) kc_59_90 rfl rfl ?_
          by_cases c84 : x4.toInt = 0
          · refine xi_ift (pc' := 99) kc_59_92 rfl (xc_eq_t (X := x4.toInt) (Y := 0) rfl (by decide) (by omega)) ?_
            refine xi_iconst (pc' := 100) (v := 0) kc_59_99 rfl rfl ?_
            refine xi_ireturn kc_59_100 mr_59 rfl ?_
            have zc0 : (0 : Int32).toInt = 0 := by decide
            exact kk 0 h (by omega) K
          · refine xi_iff (pc' := 95) kc_59_92 rfl (xc_eq_f (X := x4.toInt) (Y := 0) rfl (by decide) (by omega)) ?_
            refine xi_iconst (pc' := 96) (v := 1) kc_59_95 rfl rfl ?_
            refine xi_goto (pc' := 100) kc_59_96 rfl ?_
            refine xi_ireturn kc_59_100 mr_59 rfl ?_
            have zc1 : (1 : Int32).toInt = 1 := by decide
            exact kk 1 h (by omega) K
      · refine xi_cmf (pc' := 17) kc_59_14 rfl (xc_ge_f (X := x5.toInt) (Y := v81.toInt) rfl rfl (by omega)) ?_
        refine xi_iload_n (pc' := 18) (x := x3) kc_59_17 rfl rfl ?_
        by_cases c85 : x3.toInt = 0
        · refine xi_ift (pc' := 26) kc_59_18 rfl (xc_eq_t (X := x3.toInt) (Y := 0) rfl (by decide) (by omega)) ?_
          refine xi_aload_n (pc' := 27) (x := 115) kc_59_26 rfl rfl ?_
          refine xi_iload (pc' := 29) (x := x5) kc_59_27 rfl rfl ?_
          refine xi_iload_n (pc' := 30) (x := x1) kc_59_29 rfl rfl ?_
          refine xi_virtual (mj := 60) (as := [.int x5, .int x1]) (st1 := []) (lv0 := [(0, .ref 115), (1, .int x5), (2, .int x1)]) kc_59_30 rfl rfl rfl rfl rfl A14 (Nat.le_of_ble_eq_true rfl) (hJ _ _ _ _ (by decide)) (xm_le ml_60 rfl) rfl ?_
          refine mt_60_0 hJ hov1 hov2 (d := d) (x1 := x5) (x2 := x1) K.1 (by first | omega | decide) (by first | omega | decide) (fun r86 hh87 br86 K88 => ?_)
          have K89 := xk_tr K K88 rfl
          refine xp_115 K89.1 (fun u90 u91 u92 u93 u94 u95 u96 u97 u98 u99 u100 u101 u102 bu90 bu91 bu92 bu93 bu94 bu95 bu96 bu97 bu98 bu99 bu100 bu101 bu102 A103 => ?_)
          have e104 : u2 = u91 := xk_eqi (q := 1) K88 rfl A14 A103 rfl rfl
          subst e104
          have e105 : u5 = u94 := xk_eqi (q := 23) K88 rfl A14 A103 rfl rfl
          subst e105
          show xw J ov (d + 3) 59 (33, [(0, .ref 115), (1, .int x1), (2, .int x2), (3, .int x3), (4, .int x4), (5, .int x5)], [.int r86], hh87) _
          by_cases c106 : r86.toInt = 0
          · refine xi_ift (pc' := 80) kc_59_33 rfl (xc_eq_t (X := r86.toInt) (Y := 0) rfl (by decide) (by omega)) ?_
            refine xcps2 (α := Int32) (x5 + 1) (fun v107 ev107 => ?_)
            have zv107 : v107.toInt = (x5.toInt + 1) := by rw [← ev107]; exact (xz_add (X := x5.toInt) (Y := 1) rfl (by decide) (by omega) (by omega)).trans (by omega)
            refine xi_iinc (pc' := 83) (x := x5) (v := v107) (lv' := [(5, .int v107), (0, .ref 115), (1, .int x1), (2, .int x2), (3, .int x3), (4, .int x4)]) kc_59_80 rfl rfl ev107 rfl (xm_lt ml_59 rfl) ?_
            refine xi_goto (pc' := 8) kc_59_83 rfl ?_
            refine xw_lv (b := [(0, .ref 115), (1, .int x1), (2, .int x2), (3, .int x3), (4, .int x4), (5, .int v107)]) (lvS_cons (lvS_cons (lvS_cons (lvS_cons (lvS_cons (lvS_cons (lvS_nil (show ([5, 0, 1, 2, 3, 4] : List Nat).Nodup by decide)) rfl) rfl) rfl) rfl) rfl) rfl) ?_
            exact i0 x1 x2 x3 x4 v107 hh87 (by omega) (by omega) (by omega) (by omega) (by omega) K89 (by omega)
          · refine xi_iff (pc' := 36) kc_59_33 rfl (xc_eq_f (X := r86.toInt) (Y := 0) rfl (by decide) (by omega)) ?_
            refine xi_iload_n (pc' := 37) (x := x3) kc_59_36 rfl rfl ?_
            refine xi_iff (pc' := 40) kc_59_37 rfl (xc_ne_f (X := x3.toInt) (Y := 0) rfl (by decide) (by omega)) ?_
            refine xi_aload_n (pc' := 41) (x := 115) kc_59_40 rfl rfl ?_
            refine xi_iload_n (pc' := 42) (x := x2) kc_59_41 rfl rfl ?_
            refine xi_iload (pc' := 44) (x := x5) kc_59_42 rfl rfl ?_
            refine xi_virtual (mj := 54) (as := [.int x2, .int x5]) (st1 := []) (lv0 := [(0, .ref 115), (1, .int x2), (2, .int x5)]) kc_59_44 rfl rfl rfl rfl rfl A103 (Nat.le_of_ble_eq_true rfl) (hJ _ _ _ _ (by decide)) (xm_le ml_54 rfl) rfl ?_
            refine xi_aload_n (pc' := 1) (x := 115) kc_54_0 rfl rfl ?_
            refine xi_getfield (pc' := 4) (v := .ref 152) kc_54_1 rfl rfl rfl A103 rfl ?_
            refine xi_iload_n (pc' := 5) (x := x2) kc_54_4 rfl rfl ?_
            refine xcps4 (xk_arr K89.1 xD_152) (fun y108 A108 hy108 ry108 => ?_)
            refine xcps4 (xj_get hy108 ry108 (i := x2) (by omega) (by omega)) (fun v109 ev109 bv109 dv109 => ?_)
            refine xi_iaload (pc' := 6) (v := v109) kc_54_5 rfl A108 (by decide) rfl (xi_in (by omega) (by rw [hy108]; omega)) ev109 ?_
            refine xi_iload_n (pc' := 7) (x := x5) kc_54_6 rfl rfl ?_
            refine xcps2 (α := Int32) ((v109 : Int32) &&& x5) (fun v110 ev110 => ?_)
            have rv110 := xc_rng v110
            refine xi_iand (pc' := 8) (v := v110) kc_54_7 rfl ev110 ?_
            by_cases c111 : v110.toInt = 0
            · refine xi_ift (pc' := 15) kc_54_8 rfl (xc_eq_t (X := v110.toInt) (Y := 0) rfl (by decide) (by omega)) ?_
              refine xi_iconst (pc' := 16) (v := 2) kc_54_15 rfl rfl ?_
              refine xi_ireturn kc_54_16 mr_54 rfl ?_
              show xw J ov (d + 3) 59 (47, [(0, .ref 115), (1, .int x1), (2, .int x2), (3, .int x3), (4, .int x4), (5, .int x5)], [.int 2], hh87) _
              refine xi_iconst (pc' := 48) (v := 1) kc_59_47 rfl rfl ?_
              refine xi_cmt (pc' := 55) kc_59_48 rfl rfl ?_
              refine xi_iconst (pc' := 56) (v := 0) kc_59_55 rfl rfl ?_
              refine xi_istore_n (pc' := 57) (lv' := [(3, .int 0), (0, .ref 115), (1, .int x1), (2, .int x2), (4, .int x4), (5, .int x5)]) kc_59_56 rfl rfl (xm_lt ml_59 rfl) ?_
              refine xi_iload (pc' := 59) (x := x4) kc_59_57 rfl rfl ?_
              by_cases c112 : x4.toInt = 0
              · refine xi_iff (pc' := 62) kc_59_59 rfl (xc_ne_f (X := x4.toInt) (Y := 0) rfl (by decide) (by omega)) ?_
                refine xi_aload_n (pc' := 63) (x := 115) kc_59_62 rfl rfl ?_
                refine xi_iload_n (pc' := 64) (x := x2) kc_59_63 rfl rfl ?_
                refine xi_iload (pc' := 66) (x := x5) kc_59_64 rfl rfl ?_
                refine xi_virtual (mj := 54) (as := [.int x2, .int x5]) (st1 := []) (lv0 := [(0, .ref 115), (1, .int x2), (2, .int x5)]) kc_59_66 rfl rfl rfl rfl rfl A103 (Nat.le_of_ble_eq_true rfl) (hJ _ _ _ _ (by decide)) (xm_le ml_54 rfl) rfl ?_
                refine xi_aload_n (pc' := 1) (x := 115) kc_54_0 rfl rfl ?_
                refine xi_getfield (pc' := 4) (v := .ref 152) kc_54_1 rfl rfl rfl A103 rfl ?_
                refine xi_iload_n (pc' := 5) (x := x2) kc_54_4 rfl rfl ?_
                refine xi_iaload (pc' := 6) (v := v109) kc_54_5 rfl A108 (by decide) rfl (xi_in (by omega) (by rw [hy108]; omega)) ev109 ?_
                refine xi_iload_n (pc' := 7) (x := x5) kc_54_6 rfl rfl ?_
                refine xi_iand (pc' := 8) (v := v110) kc_54_7 rfl ev110 ?_
                refine xi_ift (pc' := 15) kc_54_8 rfl (xc_eq_t (X := v110.toInt) (Y := 0) rfl (by decide) (by omega)) ?_
                refine xi_iconst (pc' := 16) (v := 2) kc_54_15 rfl rfl ?_
                refine xi_ireturn kc_54_16 mr_54 rfl ?_
                show xw J ov (d + 3) 59 (69, [(3, .int 0), (0, .ref 115), (1, .int x1), (2, .int x2), (4, .int x4), (5, .int x5)], [.int 2], hh87) _
                refine xi_iconst (pc' := 70) (v := 2) kc_59_69 rfl rfl ?_
                refine xi_cmf (pc' := 73) kc_59_70 rfl rfl ?_
                refine xi_iconst (pc' := 74) (v := 1) kc_59_73 rfl rfl ?_
                refine xi_goto (pc' := 78) kc_59_74 rfl ?_
                refine xi_istore (pc' := 80) (lv' := [(4, .int 1), (3, .int 0), (0, .ref 115), (1, .int x1), (2, .int x2), (5, .int x5)]) kc_59_78 rfl rfl (xm_lt ml_59 rfl) ?_
                refine xcps2 (α := Int32) (x5 + 1) (fun v113 ev113 => ?_)
                have zv113 : v113.toInt = (x5.toInt + 1) := by rw [← ev113]; exact (xz_add (X := x5.toInt) (Y := 1) rfl (by decide) (by omega) (by omega)).trans (by omega)
                refine xi_iinc (pc' := 83) (x := x5) (v := v113) (lv' := [(5, .int v113), (4, .int 1), (3, .int 0), (0, .ref 115), (1, .int x1), (2, .int x2)]) kc_59_80 rfl rfl ev113 rfl (xm_lt ml_59 rfl) ?_
                refine xi_goto (pc' := 8) kc_59_83 rfl ?_
                have zc0 : (0 : Int32).toInt = 0 := by decide
                have zc1 : (1 : Int32).toInt = 1 := by decide
                refine xw_lv (b := [(0, .ref 115), (1, .int x1), (2, .int x2), (3, .int 0), (4, .int 1), (5, .int v113)]) (lvS_cons (lvS_cons (lvS_cons (lvS_cons (lvS_cons (lvS_cons (lvS_nil (show ([5, 4, 3, 0, 1, 2] : List Nat).Nodup by decide)) rfl) rfl) rfl) rfl) rfl) rfl) ?_
                exact i0 x1 x2 0 1 v113 hh87 (by omega) (by omega) (by omega) (by omega) (by omega) K89 (by omega)
              · refine xi_ift (pc' := 73) kc_59_59 rfl (xc_ne_t (X := x4.toInt) (Y := 0) rfl (by decide) (by omega)) ?_
                refine xi_iconst (pc' := 74) (v := 1) kc_59_73 rfl rfl ?_
                refine xi_goto (pc' := 78) kc_59_74 rfl ?_
                refine xi_istore (pc' := 80) (lv' := [(4, .int 1), (3, .int 0), (0, .ref 115), (1, .int x1), (2, .int x2), (5, .int x5)]) kc_59_78 rfl rfl (xm_lt ml_59 rfl) ?_
                refine xcps2 (α := Int32) (x5 + 1) (fun v114 ev114 => ?_)
                have zv114 : v114.toInt = (x5.toInt + 1) := by rw [← ev114]; exact (xz_add (X := x5.toInt) (Y := 1) rfl (by decide) (by omega) (by omega)).trans (by omega)
                refine xi_iinc (pc' := 83) (x := x5) (v := v114) (lv' := [(5, .int v114), (4, .int 1), (3, .int 0), (0, .ref 115), (1, .int x1), (2, .int x2)]) kc_59_80 rfl rfl ev114 rfl (xm_lt ml_59 rfl) ?_
                refine xi_goto (pc' := 8) kc_59_83 rfl ?_
                have zc0 : (0 : Int32).toInt = 0 := by decide
                have zc1 : (1 : Int32).toInt = 1 := by decide
                refine xw_lv (b := [(0, .ref 115), (1, .int x1), (2, .int x2), (3, .int 0), (4, .int 1), (5, .int v114)]) (lvS_cons (lvS_cons (lvS_cons (lvS_cons (lvS_cons (lvS_cons (lvS_nil (show ([5, 4, 3, 0, 1, 2] : List Nat).Nodup by decide)) rfl) rfl) rfl) rfl) rfl) rfl) ?_
                exact i0 x1 x2 0 1 v114 hh87 (by omega) (by omega) (by omega) (by omega) (by omega) K89 (by omega)
            · refine xi_iff (pc' := 11) kc_54_8 rfl (xc_eq_f (X := v110.toInt) (Y := 0) rfl (by decide) (by omega)) ?_
              refine xi_iconst (pc' := 12) (v := 1) kc_54_11 rfl rfl ?_
              refine xi_goto (pc' := 16) kc_54_12 rfl ?_
              refine xi_ireturn kc_54_16 mr_54 rfl ?_
              show xw J ov (d + 3) 59 (47, [(0, .ref 115), (1, .int x1), (2, .int x2), (3, .int x3), (4, .int x4), (5, .int x5)], [.int 1], hh87) _
              refine xi_iconst (pc' := 48) (v := 1) kc_59_47 rfl rfl ?_
              refine xi_cmf (pc' := 51) kc_59_48 rfl rfl ?_
              refine xi_iconst (pc' := 52) (v := 1) kc_59_51 rfl rfl ?_
              refine xi_goto (pc' := 56) kc_59_52 rfl ?_
              refine xi_istore_n (pc' := 57) (lv' := [(3, .int 1), (0, .ref 115), (1, .int x1), (2, .int x2), (4, .int x4), (5, .int x5)]) kc_59_56 rfl rfl (xm_lt ml_59 rfl) ?_
              refine xi_iload (pc' := 59) (x := x4) kc_59_57 rfl rfl ?_
              by_cases c115 : x4.toInt = 0
              · refine xi_iff (pc' := 62) kc_59_59 rfl (xc_ne_f (X := x4.toInt) (Y := 0) rfl (by decide) (by omega)) ?_
                refine xi_aload_n (pc' := 63) (x := 115) kc_59_62 rfl rfl ?_
                refine xi_iload_n (pc' := 64) (x := x2) kc_59_63 rfl rfl ?_
                refine xi_iload (pc' := 66) (x := x5) kc_59_64 rfl rfl ?_
                refine xi_virtual (mj := 54) (as := [.int x2, .int x5]) (st1 := []) (lv0 := [(0, .ref 115), (1, .int x2), (2, .int x5)]) kc_59_66 rfl rfl rfl rfl rfl A103 (Nat.le_of_ble_eq_true rfl) (hJ _ _ _ _ (by decide)) (xm_le ml_54 rfl) rfl ?_
                refine xi_aload_n (pc' := 1) (x := 115) kc_54_0 rfl rfl ?_
                refine xi_getfield (pc' := 4) (v := .ref 152) kc_54_1 rfl rfl rfl A103 rfl ?_
                refine xi_iload_n (pc' := 5) (x := x2) kc_54_4 rfl rfl ?_
                refine xi_iaload (pc' := 6) (v := v109) kc_54_5 rfl A108 (by decide) rfl (xi_in (by omega) (by rw [hy108]; omega)) ev109 ?_
                refine xi_iload_n (pc' := 7) (x := x5) kc_54_6 rfl rfl ?_
                refine xi_iand (pc' := 8) (v := v110) kc_54_7 rfl ev110 ?_
                refine xi_iff (pc' := 11) kc_54_8 rfl (xc_eq_f (X := v110.toInt) (Y := 0) rfl (by decide) (by omega)) ?_
                refine xi_iconst (pc' := 12) (v := 1) kc_54_11 rfl rfl ?_
                refine xi_goto (pc' := 16) kc_54_12 rfl ?_
                refine xi_ireturn kc_54_16 mr_54 rfl ?_
                show xw J ov (d + 3) 59 (69, [(3, .int 1), (0, .ref 115), (1, .int x1), (2, .int x2), (4, .int x4), (5, .int x5)], [.int 1], hh87) _
                refine xi_iconst (pc' := 70) (v := 2) kc_59_69 rfl rfl ?_
                refine xi_cmt (pc' := 77) kc_59_70 rfl rfl ?_
                refine xi_iconst (pc' := 78) (v := 0) kc_59_77 rfl rfl ?_
                refine xi_istore (pc' := 80) (lv' := [(4, .int 0), (3, .int 1), (0, .ref 115), (1, .int x1), (2, .int x2), (5, .int x5)]) kc_59_78 rfl rfl (xm_lt ml_59 rfl) ?_
                refine xcps2 (α := Int32) (x5 + 1) (fun v116 ev116 => ?_)
                have zv116 : v116.toInt = (x5.toInt + 1) := by rw [← ev116]; exact (xz_add (X := x5.toInt) (Y := 1) rfl (by decide) (by omega) (by omega)).trans (by omega)
                refine xi_iinc (pc' := 83) (x := x5) (v := v116) (lv' := [(5, .int v116), (4, .int 0), (3, .int 1), (0, .ref 115), (1, .int x1), (2, .int x2)]) kc_59_80 rfl rfl ev116 rfl (xm_lt ml_59 rfl) ?_
                refine xi_goto (pc' := 8) kc_59_83 rfl ?_
                have zc0 : (0 : Int32).toInt = 0 := by decide
                have zc1 : (1 : Int32).toInt = 1 := by decide
                refine xw_lv (b := [(0, .ref 115), (1, .int x1), (2, .int x2), (3, .int 1), (4, .int 0), (5, .int v116)]) (lvS_cons (lvS_cons (lvS_cons (lvS_cons (lvS_cons (lvS_cons (lvS_nil (show ([5, 4, 3, 0, 1, 2] : List Nat).Nodup by decide)) rfl) rfl) rfl) rfl) rfl) rfl) ?_
                exact i0 x1 x2 1 0 v116 hh87 (by omega) (by omega) (by omega) (by omega) (by omega) K89 (by omega)
              · refine xi_ift (pc' := 73) kc_59_59 rfl (xc_ne_t (X := x4.toInt) (Y := 0) rfl (by decide) (by omega)) ?_
                refine xi_iconst (pc' := 74) (v := 1) kc_59_73 rfl rfl ?_
                refine xi_goto (pc' := 78) kc_59_74 rfl ?_
                refine xi_istore (pc' := 80) (lv' := [(4, .int 1), (3, .int 1), (0, .ref 115), (1, .int x1), (2, .int x2), (5, .int x5)]) kc_59_78 rfl rfl (xm_lt ml_59 rfl) ?_
                refine xcps2 (α := Int32) (x5 + 1) (fun v117 ev117 => ?_)
                have zv117 : v117.toInt = (x5.toInt + 1) := by rw [← ev117]; exact (xz_add (X := x5.toInt) (Y := 1) rfl (by decide) (by omega) (by omega)).trans (by omega)
                refine xi_iinc (pc' := 83) (x := x5) (v := v117) (lv' := [(5, .int v117), (4, .int 1), (3, .int 1), (0, .ref 115), (1, .int x1), (2, .int x2)]) kc_59_80 rfl rfl ev117 rfl (xm_lt ml_59 rfl) ?_
                refine xi_goto (pc' := 8) kc_59_83 rfl ?_
                have zc1 : (1 : Int32).toInt = 1 := by decide
                refine xw_lv (b := [(0, .ref 115), (1, .int x1), (2, .int x2), (3, .int 1), (4, .int 1), (5, .int v117)]) (lvS_cons (lvS_cons (lvS_cons (lvS_cons (lvS_cons (lvS_cons (lvS_nil (show ([5, 4, 3, 0, 1, 2] : List Nat).Nodup by decide)) rfl) rfl) rfl) rfl) rfl) rfl) ?_
                exact i0 x1 x2 1 1 v117 hh87 (by omega) (by omega) (by omega) (by omega) (by omega) K89 (by omega)
        · refine xi_iff (pc' := 21) kc_59_18 rfl (xc_eq_f (X := x3.toInt) (Y := 0) rfl (by decide) (by omega)) ?_
          refine xi_iload (pc' := 23) (x := x4) kc_59_21 rfl rfl ?_
          by_cases c118 : x4.toInt = 0
          · refine xi_iff (pc' := 26) kc_59_23 rfl (xc_ne_f (X := x4.toInt) (Y := 0) rfl (by decide) (by omega)) ?_
            refine xi_aload_n (pc' := 27) (x := 115) kc_59_26 rfl rfl ?_
            refine xi_iload (pc' := 29) (x := x5) kc_59_27 rfl rfl ?_
            refine xi_iload_n (pc' := 30) (x := x1) kc_59_29 rfl rfl ?_
            refine xi_virtual (mj := 60) (as := [.int x5, .int x1]) (st1 := []) (lv0 := [(0, .ref 115), (1, .int x5), (2, .int x1)]) kc_59_30 rfl rfl rfl rfl rfl A14 (Nat.le_of_ble_eq_true rfl) (hJ _ _ _ _ (by decide)) (xm_le ml_60 rfl) rfl ?_
            refine mt_60_0 hJ hov1 hov2 (d := d) (x1 := x5) (x2 := x1) K.1 (by first | omega | decide) (by first | omega | decide) (fun r119 hh120 br119 K121 => ?_)
            have K122 := xk_tr K K121 rfl
            refine xp_115 K122.1 (fun u123 u124 u125 u126 u127 u128 u129 u130 u131 u132 u133 u134 u135 bu123 bu124 bu125 bu126 bu127 bu128 bu129 bu130 bu131 bu132 bu133 bu134 bu135 A136 => ?_)
            have e137 : u2 = u124 := xk_eqi (q := 1) K121 rfl A14 A136 rfl rfl
            subst e137
            have e138 : u5 = u127 := xk_eqi (q := 23) K121 rfl A14 A136 rfl rfl
            subst e138
            show xw J ov (d + 3) 59 (33, [(0, .ref 115), (1, .int x1), (2, .int x2), (3, .int x3), (4, .int x4), (5, .int x5)], [.int r119], hh120) _
            by_cases c139 : r119.toInt = 0
            · refine xi_ift (pc' := 80) kc_59_33 rfl (xc_eq_t (X := r119.toInt) (Y := 0) rfl (by decide) (by omega)) ?_
              refine xcps2 (α := Int32) (x5 + 1) (fun v140 ev140 => ?_)
              have zv140 : v140.toInt = (x5.toInt + 1) := by rw [← ev140]; exact (xz_add (X := x5.toInt) (Y := 1) rfl (by decide) (by omega) (by omega)).trans (by omega)
              refine xi_iinc (pc' := 83) (x := x5) (v := v140) (lv' := [(5, .int v140), (0, .ref 115), (1, .int x1), (2, .int x2), (3, .int x3), (4, .int x4)]) kc_59_80 rfl rfl ev140 rfl (xm_lt ml_59 rfl) ?_
              refine xi_goto (pc' := 8) kc_59_83 rfl ?_
              refine xw_lv (b := [(0, .ref 115), (1, .int x1), (2, .int x2), (3, .int x3), (4, .int x4), (5, .int v140)]) (lvS_cons (lvS_cons (lvS_cons (lvS_cons (lvS_cons (lvS_cons (lvS_nil (show ([5, 0, 1, 2, 3, 4] : List Nat).Nodup by decide)) rfl) rfl) rfl) rfl) rfl) rfl) ?_
              exact i0 x1 x2 x3 x4 v140 hh120 (by omega) (by omega) (by omega) (by omega) (by omega) K122 (by omega)
            · refine xi_iff (pc' := 36) kc_59_33 rfl (xc_eq_f (X := r119.toInt) (Y := 0) rfl (by decide) (by omega)) ?_
              refine xi_iload_n (pc' := 37) (x := x3) kc_59_36 rfl rfl ?_
              refine xi_ift (pc' := 51) kc_59_37 rfl (xc_ne_t (X := x3.toInt) (Y := 0) rfl (by decide) (by omega)) ?_
              refine xi_iconst (pc' := 52) (v := 1) kc_59_51 rfl rfl ?_
              refine xi_goto (pc' := 56) kc_59_52 rfl ?_
              refine xi_istore_n (pc' := 57) (lv' := [(3, .int 1), (0, .ref 115), (1, .int x1), (2, .int x2), (4, .int x4), (5, .int x5)]) kc_59_56 rfl rfl (xm_lt ml_59 rfl) ?_
              refine xi_iload (pc' := 59) (x := x4) kc_59_57 rfl rfl ?_
              refine xi_iff (pc' := 62) kc_59_59 rfl (xc_ne_f (X := x4.toInt) (Y := 0) rfl (by decide) (by omega)) ?_
              refine xi_aload_n (pc' := 63) (x := 115) kc_59_62 rfl rfl ?_
              refine xi_iload_n (pc' := 64) (x := x2) kc_59_63 rfl rfl ?_
              refine xi_iload (pc' := 66) (x := x5) kc_59_64 rfl rfl ?_
              refine xi_virtual (mj := 54) (as := [.int x2, .int x5]) (st1 := []) (lv0 := [(0, .ref 115), (1, .int x2), (2, .int x5)]) kc_59_66 rfl rfl rfl rfl rfl A136 (Nat.le_of_ble_eq_true rfl) (hJ _ _ _ _ (by decide)) (xm_le ml_54 rfl) rfl ?_
              refine xi_aload_n (pc' := 1) (x := 115) kc_54_0 rfl rfl ?_
              refine xi_getfield (pc' := 4) (v := .ref 152) kc_54_1 rfl rfl rfl A136 rfl ?_
              refine xi_iload_n (pc' := 5) (x := x2) kc_54_4 rfl rfl ?_
              refine xcps4 (xk_arr K122.1 xD_152) (fun y141 A141 hy141 ry141 => ?_)
              refine xcps4 (xj_get hy141 ry141 (i := x2) (by omega) (by omega)) (fun v142 ev142 bv142 dv142 => ?_)
              refine xi_iaload (pc' := 6) (v := v142) kc_54_5 rfl A141 (by decide) rfl (xi_in (by omega) (by rw [hy141]; omega)) ev142 ?_
              refine xi_iload_n (pc' := 7) (x := x5) kc_54_6 rfl rfl ?_
              refine xcps2 (α := Int32) ((v142 : Int32) &&& x5) (fun v143 ev143 => ?_)
              have rv143 := xc_rng v143
              refine xi_iand (pc' := 8) (v := v143) kc_54_7 rfl ev143 ?_
              by_cases c144 : v143.toInt = 0
              · refine xi_ift (pc' := 15) kc_54_8 rfl (xc_eq_t (X := v143.toInt) (Y := 0) rfl (by decide) (by omega)) ?_
                refine xi_iconst (pc' := 16) (v := 2) kc_54_15 rfl rfl ?_
                refine xi_ireturn kc_54_16 mr_54 rfl ?_
                show xw J ov (d + 3) 59 (69, [(3, .int 1), (0, .ref 115), (1, .int x1), (2, .int x2), (4, .int x4), (5, .int x5)], [.int 2], hh120) _
                refine xi_iconst (pc' := 70) (v := 2) kc_59_69 rfl rfl ?_
                refine xi_cmf (pc' := 73) kc_59_70 rfl rfl ?_
                refine xi_iconst (pc' := 74) (v := 1) kc_59_73 rfl rfl ?_
                refine xi_goto (pc' := 78) kc_59_74 rfl ?_
                refine xi_istore (pc' := 80) (lv' := [(4, .int 1), (3, .int 1), (0, .ref 115), (1, .int x1), (2, .int x2), (5, .int x5)]) kc_59_78 rfl rfl (xm_lt ml_59 rfl) ?_
                refine xcps2 (α := Int32) (x5 + 1) (fun v145 ev145 => ?_)
                have zv145 : v145.toInt = (x5.toInt + 1) := by rw [← ev145]; exact (xz_add (X := x5.toInt) (Y := 1) rfl (by decide) (by omega) (by omega)).trans (by omega)
                refine xi_iinc (pc' := 83) (x := x5) (v := v145) (lv' := [(5, .int v145), (4, .int 1), (3, .int 1), (0, .ref 115), (1, .int x1), (2, .int x2)]) kc_59_80 rfl rfl ev145 rfl (xm_lt ml_59 rfl) ?_
                refine xi_goto (pc' := 8) kc_59_83 rfl ?_
                have zc1 : (1 : Int32).toInt = 1 := by decide
                refine xw_lv (b := [(0, .ref 115), (1, .int x1), (2, .int x2), (3, .int 1), (4, .int 1), (5, .int v145)]) (lvS_cons (lvS_cons (lvS_cons (lvS_cons (lvS_cons (lvS_cons (lvS_nil (show ([5, 4, 3, 0, 1, 2] : List Nat).Nodup by decide)) rfl) rfl) rfl) rfl) rfl) rfl) ?_
                exact i0 x1 x2 1 1 v145 hh120 (by omega) (by omega) (by omega) (by omega) (by omega) K122 (by omega)
              · refine xi_iff (pc' := 11) kc_54_8 rfl (xc_eq_f (X := v143.toInt) (Y := 0) rfl (by decide) (by omega)) ?_
                refine xi_iconst (pc' := 12) (v := 1) kc_54_11 rfl rfl ?_
                refine xi_goto (pc' := 16) kc_54_12 rfl ?_
                refine xi_ireturn kc_54_16 mr_54 rfl ?_
                show xw J ov (d + 3) 59 (69, [(3, .int 1), (0, .ref 115), (1, .int x1), (2, .int x2), (4, .int x4), (5, .int x5)], [.int 1], hh120) _
                refine xi_iconst (pc' := 70) (v := 2) kc_59_69 rfl rfl ?_
                refine xi_cmt (pc' := 77) kc_59_70 rfl rfl ?_
                refine xi_iconst (pc' := 78) (v := 0) kc_59_77 rfl rfl ?_
                refine xi_istore (pc' := 80) (lv' := [(4, .int 0), (3, .int 1), (0, .ref 115), (1, .int x1), (2, .int x2), (5, .int x5)]) kc_59_78 rfl rfl (xm_lt ml_59 rfl) ?_
                refine xcps2 (α := Int32) (x5 + 1) (fun v146 ev146 => ?_)
                have zv146 : v146.toInt = (x5.toInt + 1) := by rw [← ev146]; exact (xz_add (X := x5.toInt) (Y := 1) rfl (by decide) (by omega) (by omega)).trans (by omega)
                refine xi_iinc (pc' := 83) (x := x5) (v := v146) (lv' := [(5, .int v146), (4, .int 0), (3, .int 1), (0, .ref 115), (1, .int x1), (2, .int x2)]) kc_59_80 rfl rfl ev146 rfl (xm_lt ml_59 rfl) ?_
                refine xi_goto (pc' := 8) kc_59_83 rfl ?_
                have zc0 : (0 : Int32).toInt = 0 := by decide
                have zc1 : (1 : Int32).toInt = 1 := by decide
                refine xw_lv (b := [(0, .ref 115), (1, .int x1), (2, .int x2), (3, .int 1), (4, .int 0), (5, .int v146)]) (lvS_cons (lvS_cons (lvS_cons (lvS_cons (lvS_cons (lvS_cons (lvS_nil (show ([5, 4, 3, 0, 1, 2] : List Nat).Nodup by decide)) rfl) rfl) rfl) rfl) rfl) rfl) ?_
                exact i0 x1 x2 1 0 v146 hh120 (by omega) (by omega) (by omega) (by omega) (by omega) K122 (by omega)
          · refine xi_ift (pc' := 86) kc_59_23 rfl (xc_ne_t (X := x4.toInt) (Y := 0) rfl (by decide) (by omega)) ?_
            refine xi_iload_n (pc' := 87) (x := x3) kc_59_86 rfl rfl ?_
            refine xi_iff (pc' := 90) kc_59_87 rfl (xc_eq_f (X := x3.toInt) (Y := 0) rfl (by decide) (by omega)) ?_
            refine xi_iload (pc' := 92) (x := x4) kc_59_90 rfl rfl ?_
            refine xi_iff (pc' := 95) kc_59_92 rfl (xc_eq_f (X := x4.toInt) (Y := 0) rfl (by decide) (by omega)) ?_
            refine xi_iconst (pc' := 96) (v := 1) kc_59_95 rfl rfl ?_
            refine xi_goto (pc' := 100) kc_59_96 rfl ?_
            refine xi_ireturn kc_59_100 mr_59 rfl ?_
            have zc1 : (1 : Int32).toInt = 1 := by decide
            exact kk 1 h (by omega) K
set_option maxHeartbeats 4000000 in
theorem mt_59_0 {J : xe_J} {ov : List (List Int32)} (hJ : ∀ d mj as h, mj ≠ xe_loff → J d mj as h = none) (hov1 : ov[1]? = some [10, 0, 0, 0, 0, 0]) (hov2 : ov[2]? = some [99, 30, 50, 50, 1, 99999]) {d : Nat} {Q : Option Value → xe_H → Prop} {h : xe_H} {x1 : Int32} {x2 : Int32} (T : xt h) (b1 : (0 ≤ x1.toInt ∧ x1.toInt ≤ 6560)) (b2 : (0 ≤ x2.toInt ∧ x2.toInt ≤ 7)) (kk : (∀ (r : Int32) (h' : xe_H), (0 ≤ r.toInt ∧ r.toInt ≤ 1) → xk [(0, 9), (115, 1), (83, 0), (29, 0), (31, 0), (33, 0), (35, 0), (37, 0), (39, 0), (41, 0), (43, 0), (45, 0), (47, 0), (49, 0), (51, 0), (125, 0), (29, 2), (31, 2), (33, 2), (35, 2), (37, 2), (39, 2), (41, 2), (43, 2), (45, 2), (47, 2), (49, 2), (51, 2), (127, 0), (1, 5), (115, 23)] h h' → Q (some (.int r)) h')) : xw J ov (d + 3) 59 (0, [(0, .ref 115), (1, .int x1), (2, .int x2)], [], h) Q := by
  have K : xk [(0, 9), (115, 1), (83, 0), (29, 0), (31, 0), (33, 0), (35, 0), (37, 0), (39, 0), (41, 0), (43, 0), (45, 0), (47, 0), (49, 0), (51, 0), (125, 0), (29, 2), (31, 2), (33, 2), (35, 2), (37, 2), (39, 2), (41, 2), (43, 2), (45, 2), (47, 2), (49, 2), (51, 2), (127, 0), (1, 5), (115, 23)] h h := xk_re T
  refine xi_iconst (pc' := 1) (v := 0) kc_59_0 rfl rfl ?_
  refine xi_istore_n (pc' := 2) (lv' := [(3, .int 0), (0, .ref 115), (1, .int x1), (2, .int x2)]) kc_59_1 rfl rfl (xm_lt ml_59 rfl) ?_
  refine xi_iconst (pc' := 3) (v := 0) kc_59_2 rfl rfl ?_
  refine xi_istore (pc' := 5) (lv' := [(4, .int 0), (3, .int 0), (0, .ref 115), (1, .int x1), (2, .int x2)]) kc_59_3 rfl rfl (xm_lt ml_59 rfl) ?_
  refine xi_iconst (pc' := 6) (v := 0) kc_59_5 rfl rfl ?_
  refine xi_istore (pc' := 8) (lv' := [(5, .int 0), (4, .int 0), (3, .int 0), (0, .ref 115), (1, .int x1), (2, .int x2)]) kc_59_6 rfl rfl (xm_lt ml_59 rfl) ?_
  have zc0 : (0 : Int32).toInt = 0 := by decide
  refine xw_lv (b := [(0, .ref 115), (1, .int x1), (2, .int x2), (3, .int 0), (4, .int 0), (5, .int 0)]) (lvS_cons (lvS_cons (lvS_cons (lvS_cons (lvS_cons (lvS_cons (lvS_nil (show ([5, 4, 3, 0, 1, 2] : List Nat).Nodup by decide)) rfl) rfl) rfl) rfl) rfl) rfl) ?_
  exact (lp_59_0 hJ hov1 hov2 (d := d) (hb := h) (fun r9 h9 b9 K9 => kk r9 h9 b9 (xk_tr K K9 rfl)) 65) x1 x2 0 0 0 h (by omega) (by omega) (by omega) (by omega) (by omega) (xk_re K.1) (by omega)
