set_option maxHeartbeats 4000000 in
theorem lp_49_0 {J : xe_J} {ov : List (List Int32)} (hJ : ∀ d mj as h, mj ≠ xe_loff → J d mj as h = none) (hov1 : ov[1]? = some [10, 0, 0, 0, 0, 0]) (hov2 : ov[2]? = some [99, 30, 50, 50, 1, 99999]) {d : Nat} {Q : Option Value → xe_H → Prop} {hb : xe_H} (kk : (∀ (r : Int32) (h' : xe_H), xk [(0, 9), (115, 1), (83, 0), (6, 0), (123, 0), (9, 0), (124, 0), (7, 0), (10, 0), (5, 0), (8, 0)] hb h' → Q (some (.int r)) h')) : ∀ m : Nat, (∀ (x1 : Int32) (x2 : Int32) (h : xe_H), xk [(0, 9), (115, 1), (83, 0), (6, 0), (123, 0), (9, 0), (124, 0), (7, 0), (10, 0), (5, 0), (8, 0)] hb h → (1) * x2.toInt + 2147483648 < (m : Int) → xw J ov (d + 1) 49 (4, [(1, .int x1), (2, .int x2)], [], h) Q) := by
  intro m
  induction m with
  | zero =>
    intro x1 x2 h K hm; have rx1 := xc_rng x1; have rx2 := xc_rng x2; exfalso; omega
  | succ m ih =>
    have i0 := ih
    intro x1 x2 h K hm
    have rx1 := xc_rng x1
    have rx2 := xc_rng x2
    refine xi_iload_n (pc' := 5) (x := x2) kc_49_4 rfl rfl ?_
    by_cases c1 : x2.toInt ≤ 0
    · refine xi_ift (pc' := 21) kc_49_5 rfl (xc_le_t (X := x2.toInt) (Y := 0) rfl (by decide) (by omega)) ?_
      refine xi_iload_n (pc' := 22) (x := x1) kc_49_21 rfl rfl ?_
      refine xi_ireturn kc_49_22 mr_49 rfl ?_
      exact kk x1 h K
    · refine xi_iff (pc' := 8) kc_49_5 rfl (xc_le_f (X := x2.toInt) (Y := 0) rfl (by decide) (by omega)) ?_
      refine xi_iload_n (pc' := 9) (x := x1) kc_49_8 rfl rfl ?_
      refine xi_iload_n (pc' := 10) (x := x2) kc_49_9 rfl rfl ?_
      refine xi_iconst (pc' := 11) (v := 2) kc_49_10 rfl rfl ?_
      obtain ⟨v2, ev2⟩ : ∃ q : Int32, x2 - x2 / 2 * 2 = q := ⟨_, rfl⟩
      have dv2 : v2.toInt = x2.toInt % 2 := by rw [← ev2]; exact xz_reme (X := x2.toInt) (Y := 2) rfl (by decide) (by omega) (by decide)
      have bv2 : 0 ≤ v2.toInt ∧ v2.toInt ≤ 1 := by omega
      refine xi_irem (pc' := 12) (v := v2) kc_49_11 rfl ev2 (by decide) ?_
      obtain ⟨v3, ev3⟩ : ∃ q : Int32, (x1 : Int32) + v2 = q := ⟨_, rfl⟩
      have rv3 := xc_rng v3
      refine xi_iadd (pc' := 13) (v := v3) kc_49_12 rfl ev3 ?_
      refine xi_istore_n (pc' := 14) (lv' := [(1, .int v3), (2, .int x2)]) kc_49_13 rfl rfl (xm_lt ml_49 rfl) ?_
      refine xi_iload_n (pc' := 15) (x := x2) kc_49_14 rfl rfl ?_
      refine xi_iconst (pc' := 16) (v := 2) kc_49_15 rfl rfl ?_
      obtain ⟨v4, ev4⟩ : ∃ q : Int32, x2 / 2 = q := ⟨_, rfl⟩
      have dv4 : v4.toInt = x2.toInt / 2 := by rw [← ev4]; exact xz_dive (X := x2.toInt) (Y := 2) rfl (by decide) (by omega) (by decide)
      have bv4 : 0 ≤ v4.toInt ∧ v4.toInt ≤ 1073741823 := by omega
      refine xi_idiv (pc' := 17) (v := v4) kc_49_16 rfl ev4 (by decide) ?_
      refine xi_istore_n (pc' := 18) (lv' := [(2, .int v4), (1, .int v3)]) kc_49_17 rfl rfl (xm_lt ml_49 rfl) ?_
      refine xi_goto (pc' := 4) kc_49_18 rfl ?_
      refine xw_lv (b := [(1, .int v3), (2, .int v4)]) (lvS_cons (lvS_cons (lvS_nil (show ([2, 1] : List Nat).Nodup by decide)) rfl) rfl) ?_
      exact i0 v3 v4 h K (by omega)
set_option maxHeartbeats 4000000 in
theorem mt_49_0 {J : xe_J} {ov : List (List Int32)} (hJ : ∀ d mj as h, mj ≠ xe_loff → J d mj as h = none) (hov1 : ov[1]? = some [10, 0, 0, 0, 0, 0]) (hov2 : ov[2]? = some [99, 30, 50, 50, 1, 99999]) {d : Nat} {Q : Option Value → xe_H → Prop} {h : xe_H} {x0 : Int32} (T : xt h) (kk : (∀ (r : Int32) (h' : xe_H), xk [(0, 9), (115, 1), (83, 0), (6, 0), (123, 0), (9, 0), (124, 0), (7, 0), (10, 0), (5, 0), (8, 0)] h h' → Q (some (.int r)) h')) : xw J ov (d + 1) 49 (0, [(0, .int x0)], [], h) Q := by
  have K : xk [(0, 9), (115, 1), (83, 0), (6, 0), (123, 0), (9, 0), (124, 0), (7, 0), (10, 0), (5, 0), (8, 0)] h h := xk_re T
  have rx0 := xc_rng x0
  refine xi_iconst (pc' := 1) (v := 0) kc_49_0 rfl rfl ?_
  refine xi_istore_n (pc' := 2) (lv' := [(1, .int 0), (0, .int x0)]) kc_49_1 rfl rfl (xm_lt ml_49 rfl) ?_
  refine xi_iload_n (pc' := 3) (x := x0) kc_49_2 rfl rfl ?_
  refine xi_istore_n (pc' := 4) (lv' := [(2, .int x0), (1, .int 0), (0, .int x0)]) kc_49_3 rfl rfl (xm_lt ml_49 rfl) ?_
  have zc0 : (0 : Int32).toInt = 0 := by decide
  refine xw_lv (b := [(1, .int 0), (2, .int x0)]) (lvS_cons (lvS_cons (lvS_nil (show ([2, 1, 0] : List Nat).Nodup by decide)) rfl) rfl) ?_
  exact (lp_49_0 hJ hov1 hov2 (d := d) (hb := h) (fun r9 h9 K9 => kk r9 h9 (xk_tr K K9 rfl)) 4294967296) 0 x0 h (xk_re K.1) (by omega)
set_option maxHeartbeats 4000000 in
theorem lp_48_0 {J : xe_J} {ov : List (List Int32)} (hJ : ∀ d mj as h, mj ≠ xe_loff → J d mj as h = none) (hov1 : ov[1]? = some [10, 0, 0, 0, 0, 0]) (hov2 : ov[2]? = some [99, 30, 50, 50, 1, 99999]) {d : Nat} {Q : Option Value → xe_H → Prop} {hb : xe_H} (kk : (∀ (r : Int32) (h' : xe_H), (0 ≤ r.toInt ∧ r.toInt ≤ 63) → xk [(0, 9), (115, 1), (83, 0), (6, 0), (123, 0), (9, 0), (124, 0), (7, 0), (10, 0), (5, 0), (8, 0)] hb h' → Q (some (.int r)) h')) : ∀ m : Nat, (∀ (x1 : Int32) (x2 : Int32) (h : xe_H), (0 ≤ x1.toInt ∧ x1.toInt ≤ 63) → (1 ≤ x2.toInt ∧ x2.toInt ≤ 64) → xk [(0, 9), (115, 1), (83, 0), (6, 0), (123, 0), (9, 0), (124, 0), (7, 0), (10, 0), (5, 0), (8, 0)] hb h → (-1) * x2.toInt + 64 < (m : Int) → xw J ov (d + 7) 48 (8, [(0, .ref 115), (1, .int x1), (2, .int x2)], [], h) Q) := by
  intro m
  induction m with
  | zero =>
    intro x1 x2 h b1 b2 K hm; exfalso; omega
  | succ m ih =>
    have i0 := ih
    intro x1 x2 h b1 b2 K hm
    refine xi_iload_n (pc' := 9) (x := x2) kc_48_8 rfl rfl ?_
    refine xi_aload_n (pc' := 10) (x := 115) kc_48_9 rfl rfl ?_
    obtain ⟨u1, u2, u3, u4, u5, u6, u7, u8, u9, u10, u11, u12, u13, bu1, bu2, bu3, bu4, bu5, bu6, bu7, bu8, bu9, bu10, bu11, bu12, bu13, A14⟩ := xq_115 K.1
    refine xi_virtual (mj := 42) (as := []) (st1 := [.int x2]) (lv0 := [(0, .ref 115)]) kc_48_10 rfl rfl rfl rfl rfl A14 (Nat.le_of_ble_eq_true rfl) (hJ _ _ _ _ (by decide)) (xm_le ml_42 rfl) rfl ?_
    refine xi_iconst (pc' := 1) (v := 1) kc_42_0 rfl rfl ?_
    refine xi_aload_n (pc' := 2) (x := 115) kc_42_1 rfl rfl ?_
    refine xi_getfield (pc' := 5) (v := .int u5) kc_42_2 rfl rfl rfl A14 rfl ?_
    refine xi_bipush (pc' := 7) (v := 6) kc_42_5 rfl rfl ?_
    by_cases c15 : 6 ≤ u5.toInt
    · refine xi_cmt (pc' := 17) kc_42_7 rfl (xc_ge_t (X := u5.toInt) (Y := 6) rfl (by decide) (by omega)) ?_
      refine xi_bipush (pc' := 19) (v := 6) kc_42_17 rfl rfl ?_
      refine xi_ishl (pc' := 20) (v := 64) kc_42_19 rfl rfl ?_
      refine xi_ireturn kc_42_20 mr_42 rfl ?_
      show xw J ov (d + 7) 48 (13, [(0, .ref 115), (1, .int x1), (2, .int x2)], [.int 64, .int x2], h) _
      by_cases c16 : 64 ≤ x2.toInt
      · refine xi_cmt (pc' := 81) kc_48_13 rfl (xc_ge_t (X := x2.toInt) (Y := 64) rfl (by decide) (by omega)) ?_
        refine xi_iload_n (pc' := 82) (x := x1) kc_48_81 rfl rfl ?_
        refine xi_ireturn kc_48_82 mr_48 rfl ?_
        exact kk x1 h (by omega) K
      · refine xi_cmf (pc' := 16) kc_48_13 rfl (xc_ge_f (X := x2.toInt) (Y := 64) rfl (by decide) (by omega)) ?_
        refine xi_aload_n (pc' := 17) (x := 115) kc_48_16 rfl rfl ?_
        refine xi_getfield (pc' := 20) (v := .ref 149) kc_48_17 rfl rfl rfl A14 rfl ?_
        refine xi_iload_n (pc' := 21) (x := x2) kc_48_20 rfl rfl ?_
        obtain ⟨y17, A17, hy17⟩ := xk_larr K.1 xD_149
        obtain ⟨v18, ev18⟩ : ∃ q : Int64, y17.getD (Int32.toNatClampNeg x2) 0 = q := ⟨_, rfl⟩
        refine xi_laload (pc' := 22) (v := v18) kc_48_21 rfl A17 rfl (xi_in (by omega) (by rw [hy17]; omega)) ev18 ?_
        refine xi_aload_n (pc' := 23) (x := 115) kc_48_22 rfl rfl ?_
        refine xi_getfield (pc' := 26) (v := .ref 149) kc_48_23 rfl rfl rfl A14 rfl ?_
        refine xi_iload_n (pc' := 27) (x := x1) kc_48_26 rfl rfl ?_
        obtain ⟨v19, ev19⟩ : ∃ q : Int64, y17.getD (Int32.toNatClampNeg x1) 0 = q := ⟨_, rfl⟩
        refine xi_laload (pc' := 28) (v := v19) kc_48_27 rfl A17 rfl (xi_in (by omega) (by rw [hy17]; omega)) ev19 ?_
        obtain ⟨v20, ev20⟩ : ∃ q : Int32, lg_cmp v18 v19 = q := ⟨_, rfl⟩
        have rv20 := xc_rng v20
        refine xi_lcmp (pc' := 29) (v := v20) kc_48_28 rfl ev20 ?_
        by_cases c21 : v20.toInt < 0
        · refine xi_ift (pc' := 59) kc_48_29 rfl (xc_lt_t (X := v20.toInt) (Y := 0) rfl (by decide) (by omega)) ?_
          refine xi_iconst (pc' := 60) (v := 1) kc_48_59 rfl rfl ?_
          refine xi_goto (pc' := 64) kc_48_60 rfl ?_
          refine xi_istore_n (pc' := 65) (lv' := [(3, .int 1), (0, .ref 115), (1, .int x1), (2, .int x2)]) kc_48_64 rfl rfl (xm_lt ml_48 rfl) ?_
          refine xi_iload_n (pc' := 66) (x := 1) kc_48_65 rfl rfl ?_
          refine xi_iff (pc' := 69) kc_48_66 rfl rfl ?_
          refine xi_iload_n (pc' := 70) (x := x2) kc_48_69 rfl rfl ?_
          refine xi_goto (pc' := 74) kc_48_70 rfl ?_
          refine xi_istore_n (pc' := 75) (lv' := [(1, .int x2), (3, .int 1), (0, .ref 115), (2, .int x2)]) kc_48_74 rfl rfl (xm_lt ml_48 rfl) ?_
          obtain ⟨v22, ev22⟩ : ∃ q : Int32, x2 + 1 = q := ⟨_, rfl⟩
          have zv22 : v22.toInt = (x2.toInt + 1) := by rw [← ev22]; exact (xz_add (X := x2.toInt) (Y := 1) rfl (by decide) (by omega) (by omega)).trans (by omega)
          refine xi_iinc (pc' := 78) (x := x2) (v := v22) (lv' := [(2, .int v22), (1, .int x2), (3, .int 1), (0, .ref 115)]) kc_48_75 rfl rfl ev22 rfl (xm_lt ml_48 rfl) ?_
          refine xi_goto (pc' := 8) kc_48_78 rfl ?_
          refine xw_lv (b := [(0, .ref 115), (1, .int x2), (2, .int v22)]) (lvS_cons (lvS_cons (lvS_cons (lvS_nil (show ([2, 1, 3, 0] : List Nat).Nodup by decide)) rfl) rfl) rfl) ?_
          exact i0 x2 v22 h (by omega) (by omega) K (by omega)
        · refine xi_iff (pc' := 32) kc_48_29 rfl (xc_lt_f (X := v20.toInt) (Y := 0) rfl (by decide) (by omega)) ?_
          refine xi_aload_n (pc' := 33) (x := 115) kc_48_32 rfl rfl ?_
          refine xi_getfield (pc' := 36) (v := .ref 149) kc_48_33 rfl rfl rfl A14 rfl ?_
          refine xi_iload_n (pc' := 37) (x := x2) kc_48_36 rfl rfl ?_
          refine xi_laload (pc' := 38) (v := v18) kc_48_37 rfl A17 rfl (xi_in (by omega) (by rw [hy17]; omega)) ev18 ?_
          refine xi_aload_n (pc' := 39) (x := 115) kc_48_38 rfl rfl ?_
          refine xi_getfield (pc' := 42) (v := .ref 149) kc_48_39 rfl rfl rfl A14 rfl ?_
          refine xi_iload_n (pc' := 43) (x := x1) kc_48_42 rfl rfl ?_
          refine xi_laload (pc' := 44) (v := v19) kc_48_43 rfl A17 rfl (xi_in (by omega) (by rw [hy17]; omega)) ev19 ?_
          obtain ⟨v23, ev23⟩ : ∃ q : Int32, lg_cmp v18 v19 = q := ⟨_, rfl⟩
          have rv23 := xc_rng v23
          refine xi_lcmp (pc' := 45) (v := v23) kc_48_44 rfl ev23 ?_
          by_cases c24 : v23.toInt = 0
          · refine xi_iff (pc' := 48) kc_48_45 rfl (xc_ne_f (X := v23.toInt) (Y := 0) rfl (by decide) (by omega)) ?_
            refine xi_iload_n (pc' := 49) (x := x2) kc_48_48 rfl rfl ?_
            refine xi_static (mj := 49) (as := [.int x2]) (st1 := []) (lv0 := [(0, .int x2)]) kc_48_49 rfl rfl (Nat.le_of_ble_eq_true rfl) rfl rfl (Nat.le_of_ble_eq_true rfl) (hJ _ _ _ _ (by decide)) (xm_le ml_49 rfl) rfl ?_
            refine mt_49_0 hJ hov1 hov2 (d := d + 5) (x0 := x2) K.1 (fun r25 hh26 K27 => ?_)
            have br25 := xc_rng r25
            have K28 := xk_tr K K27 rfl
            obtain ⟨u29, u30, u31, u32, u33, u34, u35, u36, u37, u38, u39, u40, u41, bu29, bu30, bu31, bu32, bu33, bu34, bu35, bu36, bu37, bu38, bu39, bu40, bu41, A42⟩ := xq_115 K28.1
            have e43 : u2 = u30 := xk_eqi (q := 1) K27 rfl A14 A42 rfl rfl
            subst e43
            show xw J ov (d + 7) 48 (52, [(0, .ref 115), (1, .int x1), (2, .int x2)], [.int r25], hh26) _
            refine xi_iload_n (pc' := 53) (x := x1) kc_48_52 rfl rfl ?_
            refine xi_static (mj := 49) (as := [.int x1]) (st1 := [.int r25]) (lv0 := [(0, .int x1)]) kc_48_53 rfl rfl (Nat.le_of_ble_eq_true rfl) rfl rfl (Nat.le_of_ble_eq_true rfl) (hJ _ _ _ _ (by decide)) (xm_le ml_49 rfl) rfl ?_
            refine mt_49_0 hJ hov1 hov2 (d := d + 5) (x0 := x1) K28.1 (fun r44 hh45 K46 => ?_)
            have br44 := xc_rng r44
            have K47 := xk_tr K28 K46 rfl
            obtain ⟨u48, u49, u50, u51, u52, u53, u54, u55, u56, u57, u58, u59, u60, bu48, bu49, bu50, bu51, bu52, bu53, bu54, bu55, bu56, bu57, bu58, bu59, bu60, A61⟩ := xq_115 K47.1
            have e62 : u2 = u49 := xk_eqi (q := 1) K46 rfl A42 A61 rfl rfl
            subst e62
            show xw J ov (d + 7) 48 (56, [(0, .ref 115), (1, .int x1), (2, .int x2)], [.int r44, .int r25], hh45) _
            by_cases c63 : r44.toInt ≤ r25.toInt
            · refine xi_cmt (pc' := 63) kc_48_56 rfl (xc_ge_t (X := r25.toInt) (Y := r44.toInt) rfl rfl (by omega)) ?_
              refine xi_iconst (pc' := 64) (v := 0) kc_48_63 rfl rfl ?_
              refine xi_istore_n (pc' := 65) (lv' := [(3, .int 0), (0, .ref 115), (1, .int x1), (2, .int x2)]) kc_48_64 rfl rfl (xm_lt ml_48 rfl) ?_
              refine xi_iload_n (pc' := 66) (x := 0) kc_48_65 rfl rfl ?_
              refine xi_ift (pc' := 73) kc_48_66 rfl rfl ?_
              refine xi_iload_n (pc' := 74) (x := x1) kc_48_73 rfl rfl ?_
              refine xi_istore_n (pc' := 75) (lv' := [(1, .int x1), (3, .int 0), (0, .ref 115), (2, .int x2)]) kc_48_74 rfl rfl (xm_lt ml_48 rfl) ?_
              obtain ⟨v64, ev64⟩ : ∃ q : Int32, x2 + 1 = q := ⟨_, rfl⟩
              have zv64 : v64.toInt = (x2.toInt + 1) := by rw [← ev64]; exact (xz_add (X := x2.toInt) (Y := 1) rfl (by decide) (by omega) (by omega)).trans (by omega)
              refine xi_iinc (pc' := 78) (x := x2) (v := v64) (lv' := [(2, .int v64), (1, .int x1), (3, .int 0), (0, .ref 115)]) kc_48_75 rfl rfl ev64 rfl (xm_lt ml_48 rfl) ?_
              refine xi_goto (pc' := 8) kc_48_78 rfl ?_
              refine xw_lv (b := [(0, .ref 115), (1, .int x1), (2, .int v64)]) (lvS_cons (lvS_cons (lvS_cons (lvS_nil (show ([2, 1, 3, 0] : List Nat).Nodup by decide)) rfl) rfl) rfl) ?_
              exact i0 x1 v64 hh45 (by omega) (by omega) K47 (by omega)
            · refine xi_cmf (pc' := 59) kc_48_56 rfl (xc_ge_f (X := r25.toInt) (Y := r44.toInt) rfl rfl (by omega)) ?_
              refine xi_iconst (pc' := 60) (v := 1) kc_48_59 rfl rfl ?_
              refine xi_goto (pc' := 64) kc_48_60 rfl ?_
              refine xi_istore_n (pc' := 65) (lv' := [(3, .int 1), (0, .ref 115), (1, .int x1), (2, .int x2)]) kc_48_64 rfl rfl (xm_lt ml_48 rfl) ?_
              refine xi_iload_n (pc' := 66) (x := 1) kc_48_65 rfl rfl ?_
              refine xi_iff (pc' := 69) kc_48_66 rfl rfl ?_
              refine xi_iload_n (pc' := 70) (x := x2) kc_48_69 rfl rfl ?_
              refine xi_goto (pc' := 74) kc_48_70 rfl ?_
              refine xi_istore_n (pc' := 75) (lv' := [(1, .int x2), (3, .int 1), (0, .ref 115), (2, .int x2)]) kc_48_74 rfl rfl (xm_lt ml_48 rfl) ?_
              obtain ⟨v65, ev65⟩ : ∃ q : Int32, x2 + 1 = q := ⟨_, rfl⟩
              have zv65 : v65.toInt = (x2.toInt + 1) := by rw [← ev65]; exact (xz_add (X := x2.toInt) (Y := 1) rfl (by decide) (by omega) (by omega)).trans (by omega)
              refine xi_iinc (pc' := 78) (x := x2) (v := v65) (lv' := [(2, .int v65), (1, .int x2), (3, .int 1), (0, .ref 115)]) kc_48_75 rfl rfl ev65 rfl (xm_lt ml_48 rfl) ?_
              refine xi_goto (pc' := 8) kc_48_78 rfl ?_
              refine xw_lv (b := [(0, .ref 115), (1, .int x2), (2, .int v65)]) (lvS_cons (lvS_cons (lvS_cons (lvS_nil (show ([2, 1, 3, 0] : List Nat).Nodup by decide)) rfl) rfl) rfl) ?_
              exact i0 x2 v65 hh45 (by omega) (by omega) K47 (by omega)
          · refine xi_ift (pc' := 63) kc_48_45 rfl (xc_ne_t (X := v23.toInt) (Y := 0) rfl (by decide) (by omega)) ?_
            refine xi_iconst (pc' := 64) (v := 0) kc_48_63 rfl rfl ?_
            refine xi_istore_n (pc' := 65) (lv' := [(3, .int 0), (0, .ref 115), (1, .int x1), (2, .int x2)]) kc_48_64 rfl rfl (xm_lt ml_48 rfl) ?_
            refine xi_iload_n (pc' := 66) (x := 0) kc_48_65 rfl rfl ?_
            refine xi_ift (pc' := 73) kc_48_66 rfl rfl ?_
            refine xi_iload_n (pc' := 74) (x := x1) kc_48_73 rfl rfl ?_
            refine xi_istore_n (pc' := 75) (lv' := [(1, .int x1), (3, .int 0), (0, .ref 115), (2, .int x2)]) kc_48_74 rfl rfl (xm_lt ml_48 rfl) ?_
            obtain ⟨v66, ev66⟩ : ∃ q : Int32, x2 + 1 = q := ⟨_, rfl⟩
            have zv66 : v66.toInt = (x2.toInt + 1) := by rw [← ev66]; exact (xz_add (X := x2.toInt) (Y := 1) rfl (by decide) (by omega) (by omega)).trans (by omega)
            refine xi_iinc (pc' := 78) (x := x2) (v := v66) (lv' := [(2, .int v66), (1, .int x1), (3, .int 0), (0, .ref 115)]) kc_48_75 rfl rfl ev66 rfl (xm_lt ml_48 rfl) ?_
            refine xi_goto (pc' := 8) kc_48_78 rfl ?_
            refine xw_lv (b := [(0, .ref 115), (1, .int x1), (2, .int v66)]) (lvS_cons (lvS_cons (lvS_cons (lvS_nil (show ([2, 1, 3, 0] : List Nat).Nodup by decide)) rfl) rfl) rfl) ?_
            exact i0 x1 v66 h (by omega) (by omega) K (by omega)
    · refine xi_cmf (pc' := 10) kc_42_7 rfl (xc_ge_f (X := u5.toInt) (Y := 6) rfl (by decide) (by omega)) ?_
      refine xi_aload_n (pc' := 11) (x := 115) kc_42_10 rfl rfl ?_
      refine xi_getfield (pc' := 14) (v := .int u5) kc_42_11 rfl rfl rfl A14 rfl ?_
      refine xi_goto (pc' := 19) kc_42_14 rfl ?_
      obtain ⟨v67, ev67⟩ : ∃ q : Int32, (1 : Int32) <<< (u5 &&& 31) = q := ⟨_, rfl⟩
      have rv67 := xc_rng v67
      have bv67 : 1 ≤ v67.toInt ∧ v67.toInt ≤ 64 := by rw [← ev67]; exact xj_shl6 (by omega) (by omega)
      refine xi_ishl (pc' := 20) (v := v67) kc_42_19 rfl ev67 ?_
      refine xi_ireturn kc_42_20 mr_42 rfl ?_
      show xw J ov (d + 7) 48 (13, [(0, .ref 115), (1, .int x1), (2, .int x2)], [.int v67, .int x2], h) _
      by_cases c68 : v67.toInt ≤ x2.toInt
      · refine xi_cmt (pc' := 81) kc_48_13 rfl (xc_ge_t (X := x2.toInt) (Y := v67.toInt) rfl rfl (by omega)) ?_
        refine xi_iload_n (pc' := 82) (x := x1) kc_48_81 rfl rfl ?_
        refine xi_ireturn kc_48_82 mr_48 rfl ?_
        exact kk x1 h (by omega) K
      · refine xi_cmf (pc' := 16) kc_48_13 rfl (xc_ge_f (X := x2.toInt) (Y := v67.toInt) rfl rfl (by omega)) ?_
        refine xi_aload_n (pc' := 17) (x := 115) kc_48_16 rfl rfl ?_
        refine xi_getfield (pc' := 20) (v := .ref 149) kc_48_17 rfl rfl rfl A14 rfl ?_
        refine xi_iload_n (pc' := 21) (x := x2) kc_48_20 rfl rfl ?_
        obtain ⟨y69, A69, hy69⟩ := xk_larr K.1 xD_149
        obtain ⟨v70, ev70⟩ : ∃ q : Int64, y69.getD (Int32.toNatClampNeg x2) 0 = q := ⟨_, rfl⟩
        refine xi_laload (pc' := 22) (v := v70) kc_48_21 rfl A69 rfl (xi_in (by omega) (by rw [hy69]; omega)) ev70 ?_
        refine xi_aload_n (pc' := 23) (x := 115) kc_48_22 rfl rfl ?_
        refine xi_getfield (pc' := 26) (v := .ref 149) kc_48_23 rfl rfl rfl A14 rfl ?_
        refine xi_iload_n (pc' := 27) (x := x1) kc_48_26 rfl rfl ?_
        obtain ⟨v71, ev71⟩ : ∃ q : Int64, y69.getD (Int32.toNatClampNeg x1) 0 = q := ⟨_, rfl⟩
        refine xi_laload (pc' := 28) (v := v71) kc_48_27 rfl A69 rfl (xi_in (by omega) (by rw [hy69]; omega)) ev71 ?_
        obtain ⟨v72, ev72⟩ : ∃ q : Int32, lg_cmp v70 v71 = q := ⟨_, rfl⟩
        have rv72 := xc_rng v72
        refine xi_lcmp (pc' := 29) (v := v72) kc_48_28 rfl ev72 ?_
        by_cases c73 : v72.toInt < 0
        · refine xi_ift (pc' := 59) kc_48_29 rfl (xc_lt_t (X := v72.toInt) (Y := 0) rfl (by decide) (by omega)) ?_
          refine xi_iconst (pc' := 60) (v := 1) kc_48_59 rfl rfl ?_
          refine xi_goto (pc' := 64) kc_48_60 rfl ?_
          refine xi_istore_n (pc' := 65) (lv' := [(3, .int 1), (0, .ref 115), (1, .int x1), (2, .int x2)]) kc_48_64 rfl rfl (xm_lt ml_48 rfl) ?_
          refine xi_iload_n (pc' := 66) (x := 1) kc_48_65 rfl rfl ?_
          refine xi_iff (pc' := 69) kc_48_66 rfl rfl ?_
          refine xi_iload_n (pc' := 70) (x := x2) kc_48_69 rfl rfl ?_
          refine xi_goto (pc' := 74) kc_48_70 rfl ?_
          refine xi_istore_n (pc' := 75) (lv' := [(1, .int x2), (3, .int 1), (0, .ref 115), (2, .int x2)]) kc_48_74 rfl rfl (xm_lt ml_48 rfl) ?_
          obtain ⟨v74, ev74⟩ : ∃ q : Int32, x2 + 1 = q := ⟨_, rfl⟩
          have zv74 : v74.toInt = (x2.toInt + 1) := by rw [← ev74]; exact (xz_add (X := x2.toInt) (Y := 1) rfl (by decide) (by omega) (by omega)).trans (by omega)
          refine xi_iinc (pc' := 78) (x := x2) (v := v74) (lv' := [(2, .int v74), (1, .int x2), (3, .int 1), (0, .ref 115)]) kc_48_75 rfl rfl ev74 rfl (xm_lt ml_48 rfl) ?_
          refine xi_goto (pc' := 8) kc_48_78 rfl ?_
          refine xw_lv (b := [(0, .ref 115), (1, .int x2), (2, .int v74)]) (lvS_cons (lvS_cons (lvS_cons (lvS_nil (show ([2, 1, 3, 0] : List Nat).Nodup by decide)) rfl) rfl) rfl) ?_
          exact i0 x2 v74 h (by omega) (by omega) K (by omega)
        · refine xi_iff (pc' := 32) kc_48_29 rfl (xc_lt_f (X := v72.toInt) (Y := 0) rfl (by decide) (by omega)) ?_
          refine xi_aload_n (pc' := 33) (x := 115) kc_48_32 rfl rfl ?_
          refine xi_getfield (pc' := 36) (v := .ref 149) kc_48_33 rfl rfl rfl A14 rfl ?_
          refine xi_iload_n (pc' := 37) (x := x2) kc_48_36 rfl rfl ?_
          refine xi_laload (pc' := 38) (v := v70) kc_48_37 rfl A69 rfl (xi_in (by omega) (by rw [hy69]; omega)) ev70 ?_
          refine xi_aload_n (pc' := 39) (x := 115) kc_48_38 rfl rfl ?_
          refine xi_getfield (pc' := 42) (v := .ref 149) kc_48_39 rfl rfl rfl A14 rfl ?_
          refine xi_iload_n (pc' := 43) (x := x1) kc_48_42 rfl rfl ?_
          refine xi_laload (pc' := 44) (v := v71) kc_48_43 rfl A69 rfl (xi_in (by omega) (by rw [hy69]; omega)) ev71 ?_
          obtain ⟨v75, ev75⟩ : ∃ q : Int32, lg_cmp v70 v71 = q := ⟨_, rfl⟩
          have rv75 := xc_rng v75
          refine xi_lcmp (pc' := 45) (v := v75) kc_48_44 rfl ev75 ?_
          by_cases c76 : v75.toInt = 0
          · refine xi_iff (pc' := 48) kc_48_45 rfl (xc_ne_f (X := v75.toInt) (Y := 0) rfl (by decide) (by omega)) ?_
            refine xi_iload_n (pc' := 49) (x := x2) kc_48_48 rfl rfl ?_
            refine xi_static (mj := 49) (as := [.int x2]) (st1 := []) (lv0 := [(0, .int x2)]) kc_48_49 rfl rfl (Nat.le_of_ble_eq_true rfl) rfl rfl (Nat.le_of_ble_eq_true rfl) (hJ _ _ _ _ (by decide)) (xm_le ml_49 rfl) rfl ?_
            refine mt_49_0 hJ hov1 hov2 (d := d + 5) (x0 := x2) K.1 (fun r77 hh78 K79 => ?_)
            have br77 := xc_rng r77
            have K80 := xk_tr K K79 rfl
            obtain ⟨u81, u82, u83, u84, u85, u86, u87, u88, u89, u90, u91, u92, u93, bu81, bu82, bu83, bu84, bu85, bu86, bu87, bu88, bu89, bu90, bu91, bu92, bu93, A94⟩ := xq_115 K80.1
            have e95 : u2 = u82 := xk_eqi (q := 1) K79 rfl A14 A94 rfl rfl
            subst e95
            show xw J ov (d + 7) 48 (52, [(0, .ref 115), (1, .int x1), (2, .int x2)], [.int r77], hh78) _
            refine xi_iload_n (pc' := 53) (x := x1) kc_48_52 rfl rfl ?_
            refine xi_static (mj := 49) (as := [.int x1]) (st1 := [.int r77]) (lv0 := [(0, .int x1)]) kc_48_53 rfl rfl (Nat.le_of_ble_eq_true rfl) rfl rfl (Nat.le_of_ble_eq_true rfl) (hJ _ _ _ _ (by decide)) (xm_le ml_49 rfl) rfl ?_
            refine mt_49_0 hJ hov1 hov2 (d := d + 5) (x0 := x1) K80.1 (fun r96 hh97 K98 => ?_)
            have br96 := xc_rng r96
            have K99 := xk_tr K80 K98 rfl
            obtain ⟨u100, u101, u102, u103, u104, u105, u106, u107, u108, u109, u110, u111, u112, bu100, bu101, bu102, bu103, bu104, bu105, bu106, bu107, bu108, bu109, bu110, bu111, bu112, A113⟩ := xq_115 K99.1
            have e114 : u2 = u101 := xk_eqi (q := 1) K98 rfl A94 A113 rfl rfl
            subst e114
            show xw J ov (d + 7) 48 (56, [(0, .ref 115), (1, .int x1), (2, .int x2)], [.int r96, .int r77], hh97) _
            by_cases c115 : r96.toInt ≤ r77.toInt
            · refine xi_cmt (pc' := 63) kc_48_56 rfl (xc_ge_t (X := r77.toInt) (Y := r96.toInt) rfl rfl (by omega)) ?_
              refine xi_iconst (pc' := 64) (v := 0) kc_48_63 rfl rfl ?_
              refine xi_istore_n (pc' := 65) (lv' := [(3, .int 0), (0, .ref 115), (1, .int x1), (2, .int x2)]) kc_48_64 rfl rfl (xm_lt ml_48 rfl) ?_
              refine xi_iload_n (pc' := 66) (x := 0) kc_48_65 rfl rfl ?_
              refine xi_ift (pc' := 73) kc_48_66 rfl rfl ?_
              refine xi_iload_n (pc' := 74) (x := x1) kc_48_73 rfl rfl ?_
              refine xi_istore_n (pc' := 75) (lv' := [(1, .int x1), (3, .int 0), (0, .ref 115), (2, .int x2)]) kc_48_74 rfl rfl (xm_lt ml_48 rfl) ?_
              obtain ⟨v116, ev116⟩ : ∃ q : Int32, x2 + 1 = q := ⟨_, rfl⟩
              have zv116 : v116.toInt = (x2.toInt + 1) := by rw [← ev116]; exact (xz_add (X := x2.toInt) (Y := 1) rfl (by decide) (by omega) (by omega)).trans (by omega)
              refine xi_iinc (pc' := 78) (x := x2) (v := v116) (lv' := [(2, .int v116), (1, .int x1), (3, .int 0), (0, .ref 115)]) kc_48_75 rfl rfl ev116 rfl (xm_lt ml_48 rfl) ?_
              refine xi_goto (pc' := 8) kc_48_78 rfl ?_
              refine xw_lv (b := [(0, .ref 115), (1, .int x1), (2, .int v116)]) (lvS_cons (lvS_cons (lvS_cons (lvS_nil (show ([2, 1, 3, 0] : List Nat).Nodup by decide)) rfl) rfl) rfl) ?_
              exact i0 x1 v116 hh97 (by omega) (by omega) K99 (by omega)
            · refine xi_cmf (pc' := 59) kc_48_56 rfl (xc_ge_f (X := r77.toInt) (Y := r96.toInt) rfl rfl (by omega)) ?_
              refine xi_iconst (pc' := 60) (v := 1) kc_48_59 rfl rfl ?_
              refine xi_goto (pc' := 64) kc_48_60 rfl ?_
              refine xi_istore_n (pc' := 65) (lv' := [(3, .int 1), (0, .ref 115), (1, .int x1), (2, .int x2)]) kc_48_64 rfl rfl (xm_lt ml_48 rfl) ?_
              refine xi_iload_n (pc' := 66) (x := 1) kc_48_65 rfl rfl ?_
              refine xi_iff (pc' := 69) kc_48_66 rfl rfl ?_
              refine xi_iload_n (pc' := 70) (x := x2) kc_48_69 rfl rfl ?_
              refine xi_goto (pc' := 74) kc_48_70 rfl ?_
              refine xi_istore_n (pc' := 75) (lv' := [(1, .int x2), (3, .int 1), (0, .ref 115), (2, .int x2)]) kc_48_74 rfl rfl (xm_lt ml_48 rfl) ?_
              obtain ⟨v117, ev117⟩ : ∃ q : Int32, x2 + 1 = q := ⟨_, rfl⟩
              have zv117 : v117.toInt = (x2.toInt + 1) := by rw [← ev117]; exact (xz_add (X := x2.toInt) (Y := 1) rfl (by decide) (by omega) (by omega)).trans (by omega)
              refine xi_iinc (pc' := 78) (x := x2) (v := v117) (lv' := [(2, .int v117), (1, .int x2), (3, .int 1), (0, .ref 115)]) kc_48_75 rfl rfl ev117 rfl (xm_lt ml_48 rfl) ?_
              refine xi_goto (pc' := 8) kc_48_78 rfl ?_
              refine xw_lv (b := [(0, .ref 115), (1, .int x2), (2, .int v117)]) (lvS_cons (lvS_cons (lvS_cons (lvS_nil (show ([2, 1, 3, 0] : List Nat).Nodup by decide)) rfl) rfl) rfl) ?_
              exact i0 x2 v117 hh97 (by omega) (by omega) K99 (by omega)
          · refine xi_ift (pc' := 63) kc_48_45 rfl (xc_ne_t (X := v75.toInt) (Y := 0) rfl (by decide) (by omega)) ?_
            refine xi_iconst (pc' := 64) (v := 0) kc_48_63 rfl rfl ?_
            refine xi_istore_n (pc' := 65) (lv' := [(3, .int 0), (0, .ref 115), (1, .int x1), (2, .int x2)]) kc_48_64 rfl rfl (xm_lt ml_48 rfl) ?_
            refine xi_iload_n (pc' := 66) (x := 0) kc_48_65 rfl rfl ?_
            refine xi_ift (pc' := 73) kc_48_66 rfl rfl ?_
            refine xi_iload_n (pc' := 74) (x := x1) kc_48_73 rfl rfl ?_
            refine xi_istore_n (pc' := 75) (lv' := [(1, .int x1), (3, .int 0), (0, .ref 115), (2, .int x2)]) kc_48_74 rfl rfl (xm_lt ml_48 rfl) ?_
            obtain ⟨v118, ev118⟩ : ∃ q : Int32, x2 + 1 = q := ⟨_, rfl⟩
            have zv118 : v118.toInt = (x2.toInt + 1) := by rw [← ev118]; exact (xz_add (X := x2.toInt) (Y := 1) rfl (by decide) (by omega) (by omega)).trans (by omega)
            refine xi_iinc (pc' := 78) (x := x2) (v := v118) (lv' := [(2, .int v118), (1, .int x1), (3, .int 0), (0, .ref 115)]) kc_48_75 rfl rfl ev118 rfl (xm_lt ml_48 rfl) ?_
            refine xi_goto (pc' := 8) kc_48_78 rfl ?_
            refine xw_lv (b := [(0, .ref 115), (1, .int x1), (2, .int v118)]) (lvS_cons (lvS_cons (lvS_cons (lvS_nil (show ([2, 1, 3, 0] : List Nat).Nodup by decide)) rfl) rfl) rfl) ?_
            exact i0 x1 v118 h (by omega) (by omega) K (by omega)
set_option maxHeartbeats 4000000 in
theorem mt_48_0 {J : xe_J} {ov : List (List Int32)} (hJ : ∀ d mj as h, mj ≠ xe_loff → J d mj as h = none) (hov1 : ov[1]? = some [10, 0, 0, 0, 0, 0]) (hov2 : ov[2]? = some [99, 30, 50, 50, 1, 99999]) {d : Nat} {Q : Option Value → xe_H → Prop} {h : xe_H} (T : xt h) (kk : (∀ (r : Int32) (h' : xe_H), (0 ≤ r.toInt ∧ r.toInt ≤ 63) → xk [(0, 9), (115, 1), (83, 0), (6, 0), (123, 0), (9, 0), (124, 0), (7, 0), (10, 0), (5, 0), (8, 0)] h h' → Q (some (.int r)) h')) : xw J ov (d + 7) 48 (0, [(0, .ref 115)], [], h) Q := by
  have K : xk [(0, 9), (115, 1), (83, 0), (6, 0), (123, 0), (9, 0), (124, 0), (7, 0), (10, 0), (5, 0), (8, 0)] h h := xk_re T
  refine xi_aload_n (pc' := 1) (x := 115) kc_48_0 rfl rfl ?_
  obtain ⟨u1, u2, u3, u4, u5, u6, u7, u8, u9, u10, u11, u12, u13, bu1, bu2, bu3, bu4, bu5, bu6, bu7, bu8, bu9, bu10, bu11, bu12, bu13, A14⟩ := xq_115 K.1
  refine xi_virtual (mj := 43) (as := []) (st1 := []) (lv0 := [(0, .ref 115)]) kc_48_1 rfl rfl rfl rfl rfl A14 (Nat.le_of_ble_eq_true rfl) (hJ _ _ _ _ (by decide)) (xm_le ml_43 rfl) rfl ?_
  refine mt_43_0 hJ hov1 hov2 (d := d)  K.1 (fun hh16 K17 => ?_)
  have K18 := xk_tr K K17 rfl
  obtain ⟨u19, u20, u21, u22, u23, u24, u25, u26, u27, u28, u29, u30, u31, bu19, bu20, bu21, bu22, bu23, bu24, bu25, bu26, bu27, bu28, bu29, bu30, bu31, A32⟩ := xq_115 K18.1
  have e33 : u2 = u20 := xk_eqi (q := 1) K17 rfl A14 A32 rfl rfl
  subst e33
  show xw J ov (d + 7) 48 (4, [(0, .ref 115)], [], hh16) _
  refine xi_iconst (pc' := 5) (v := 0) kc_48_4 rfl rfl ?_
  refine xi_istore_n (pc' := 6) (lv' := [(1, .int 0), (0, .ref 115)]) kc_48_5 rfl rfl (xm_lt ml_48 rfl) ?_
  refine xi_iconst (pc' := 7) (v := 1) kc_48_6 rfl rfl ?_
  refine xi_istore_n (pc' := 8) (lv' := [(2, .int 1), (1, .int 0), (0, .ref 115)]) kc_48_7 rfl rfl (xm_lt ml_48 rfl) ?_
  have zc0 : (0 : Int32).toInt = 0 := by decide
  have zc1 : (1 : Int32).toInt = 1 := by decide
  refine xw_lv (b := [(0, .ref 115), (1, .int 0), (2, .int 1)]) (lvS_cons (lvS_cons (lvS_cons (lvS_nil (show ([2, 1, 0] : List Nat).Nodup by decide)) rfl) rfl) rfl) ?_
  exact (lp_48_0 hJ hov1 hov2 (d := d) (hb := hh16) (fun r9 h9 b9 K9 => kk r9 h9 b9 (xk_tr K18 K9 rfl)) 64) 0 1 hh16 (by omega) (by omega) (xk_re K18.1) (by omega)
set_option maxHeartbeats 4000000 in
theorem mt_47_0 {J : xe_J} {ov : List (List Int32)} (hJ : ∀ d mj as h, mj ≠ xe_loff → J d mj as h = none) (hov1 : ov[1]? = some [10, 0, 0, 0, 0, 0]) (hov2 : ov[2]? = some [99, 30, 50, 50, 1, 99999]) {d : Nat} {Q : Option Value → xe_H → Prop} {h : xe_H} (T : xt h) (kk : (∀ (r : Int32) (h' : xe_H), (0 ≤ r.toInt ∧ r.toInt ≤ 63) → xk [(0, 9), (115, 1), (83, 0), (6, 0), (123, 0), (9, 0), (124, 0), (7, 0), (10, 0), (5, 0), (8, 0)] h h' → Q (some (.int r)) h')) : xw J ov (d + 8) 47 (0, [(0, .ref 115)], [], h) Q := by
  have K : xk [(0, 9), (115, 1), (83, 0), (6, 0), (123, 0), (9, 0), (124, 0), (7, 0), (10, 0), (5, 0), (8, 0)] h h := xk_re T
  refine xi_aload_n (pc' := 1) (x := 115) kc_47_0 rfl rfl ?_
  refine xi_iconst (pc' := 2) (v := 0) kc_47_1 rfl rfl ?_
  obtain ⟨u1, u2, u3, u4, u5, u6, u7, u8, u9, u10, u11, u12, u13, bu1, bu2, bu3, bu4, bu5, bu6, bu7, bu8, bu9, bu10, bu11, bu12, bu13, A14⟩ := xq_115 K.1
  refine xi_putfield (pc' := 5) (fs' := [.int 0, .int u2, .ref 116, .ref 117, .ref 118, .ref 119, .ref 120, .ref 121, .ref 122, .ref 123, .ref 124, .ref 125, .ref 126, .ref 127, .ref 128, .ref 129, .int u3, .ref 130, .int u4, .ref 131, .ref 132, .ref 133, .ref 134, .int u5, .ref 135, .ref 136, .ref 137, .ref 138, .ref 139, .ref 140, .ref 141, .ref 142, .int u6, .int u7, .int u8, .ref 143, .ref 144, .ref 145, .ref 146, .ref 147, .ref 148, .int u9, .ref 149, .ref 150, .ref 151, .int u10, .ref 152, .ref 153, .ref 154, .ref 155, .ref 156, .ref 157, .ref 158, .ref 159, .int u11, .ref 160, .int u12, .ref 161, .ref 162, .ref 163, .ref 164, .int u13, .ref 165, .ref 166]) kc_47_2 rfl rfl rfl A14 rfl rfl rfl (Nat.le_of_ble_eq_true rfl) rfl (fun hh16 eh15 => ?_)
  have K17 := xk_pf (k := 0) (v := 0) K (xk_wf rfl) xD_115 A14 rfl (by first | omega | decide) (by first | omega | decide) eh15 rfl
  refine xi_aload_n (pc' := 6) (x := 115) kc_47_5 rfl rfl ?_
  refine xi_virtual (mj := 48) (as := []) (st1 := []) (lv0 := [(0, .ref 115)]) kc_47_6 rfl rfl rfl rfl rfl eh15.1 (Nat.le_of_ble_eq_true rfl) (hJ _ _ _ _ (by decide)) (xm_le ml_48 rfl) rfl ?_
  refine mt_48_0 hJ hov1 hov2 (d := d)  K17.1 (fun r18 hh19 br18 K20 => ?_)
  have K21 := xk_tr K17 K20 rfl
  obtain ⟨u22, u23, u24, u25, u26, u27, u28, u29, u30, u31, u32, u33, u34, bu22, bu23, bu24, bu25, bu26, bu27, bu28, bu29, bu30, bu31, bu32, bu33, bu34, A35⟩ := xq_115 K21.1
  have e36 : u2 = u23 := xk_eqi (q := 1) K20 rfl eh15.1 A35 rfl rfl
  subst e36
  show xw J ov (d + 8) 47 (9, [(0, .ref 115)], [.int r18], hh19) _
  refine xi_ireturn kc_47_9 mr_47 rfl ?_
  exact kk r18 hh19 (by omega) K21
set_option maxHeartbeats 4000000 in
theorem lp_50_0 {J : xe_J} {ov : List (List Int32)} (hJ : ∀ d mj as h, mj ≠ xe_loff → J d mj as h = none) (hov1 : ov[1]? = some [10, 0, 0, 0, 0, 0]) (hov2 : ov[2]? = some [99, 30, 50, 50, 1, 99999]) {d : Nat} {Q : Option Value → xe_H → Prop} {hb : xe_H} (kk : (∀ (r : Int32) (h' : xe_H), xk [(0, 9), (115, 1), (83, 0), (6, 0), (123, 0), (9, 0), (124, 0), (7, 0), (10, 0), (5, 0), (8, 0)] hb h' → Q (some (.int r)) h')) : ∀ m : Nat, (∀ (x1 : Int32) (x2 : Int32) (x3 : Int32) (x4 : Int32) (h : xe_H), (0 ≤ x1.toInt ∧ x1.toInt ≤ 1) → (0 ≤ x4.toInt ∧ x4.toInt ≤ 64) → xk [(0, 9), (115, 1), (83, 0), (6, 0), (123, 0), (9, 0), (124, 0), (7, 0), (10, 0), (5, 0), (8, 0)] hb h → (-1) * x4.toInt + 64 < (m : Int) → xw J ov (d + 7) 50 (33, [(0, .ref 115), (1, .int x1), (2, .int x2), (3, .int x3), (4, .int x4)], [], h) Q) := by
  intro m
  induction m with
  | zero =>
    intro x1 x2 x3 x4 h b1 b4 K hm; have rx2 := xc_rng x2; have rx3 := xc_rng x3; exfalso; omega
  | succ m ih =>
    have i0 := ih
    intro x1 x2 x3 x4 h b1 b4 K hm
    have rx2 := xc_rng x2
    have rx3 := xc_rng x3
    refine xi_iload (pc' := 35) (x := x4) kc_50_33 rfl rfl ?_
    refine xi_aload_n (pc' := 36) (x := 115) kc_50_35 rfl rfl ?_
    obtain ⟨u1, u2, u3, u4, u5, u6, u7, u8, u9, u10, u11, u12, u13, bu1, bu2, bu3, bu4, bu5, bu6, bu7, bu8, bu9, bu10, bu11, bu12, bu13, A14⟩ := xq_115 K.1
    refine xi_virtual (mj := 42) (as := []) (st1 := [.int x4]) (lv0 := [(0, .ref 115)]) kc_50_36 rfl rfl rfl rfl rfl A14 (Nat.le_of_ble_eq_true rfl) (hJ _ _ _ _ (by decide)) (xm_le ml_42 rfl) rfl ?_
    refine xi_iconst (pc' := 1) (v := 1) kc_42_0 rfl rfl ?_
    refine xi_aload_n (pc' := 2) (x := 115) kc_42_1 rfl rfl ?_
    refine xi_getfield (pc' := 5) (v := .int u5) kc_42_2 rfl rfl rfl A14 rfl ?_
    refine xi_bipush (pc' := 7) (v := 6) kc_42_5 rfl rfl ?_
    by_cases c15 : 6 ≤ u5.toInt
    · refine xi_cmt (pc' := 17) kc_42_7 rfl (xc_ge_t (X := u5.toInt) (Y := 6) rfl (by decide) (by omega)) ?_
      refine xi_bipush (pc' := 19) (v := 6) kc_42_17 rfl rfl ?_
      refine xi_ishl (pc' := 20) (v := 64) kc_42_19 rfl rfl ?_
      refine xi_ireturn kc_42_20 mr_42 rfl ?_
      show xw J ov (d + 7) 50 (39, [(0, .ref 115), (1, .int x1), (2, .int x2), (3, .int x3), (4, .int x4)], [.int 64, .int x4], h) _
      by_cases c16 : 64 ≤ x4.toInt
      · refine xi_cmt (pc' := 109) kc_50_39 rfl (xc_ge_t (X := x4.toInt) (Y := 64) rfl (by decide) (by omega)) ?_
        refine xi_iload_n (pc' := 110) (x := x2) kc_50_109 rfl rfl ?_
        by_cases c17 : x2.toInt = 0
        · refine xi_iff (pc' := 113) kc_50_110 rfl (xc_ne_f (X := x2.toInt) (Y := 0) rfl (by decide) (by omega)) ?_
          refine xi_bipush (pc' := 115) (v := (-9)) kc_50_113 rfl rfl ?_
          refine xi_goto (pc' := 127) kc_50_115 rfl ?_
          refine xi_ireturn kc_50_127 mr_50 rfl ?_
          have zcm9 : ((-9) : Int32).toInt = (-9) := by decide
          exact kk (-9) h K
        · refine xi_ift (pc' := 118) kc_50_110 rfl (xc_ne_t (X := x2.toInt) (Y := 0) rfl (by decide) (by omega)) ?_
          refine xi_iload_n (pc' := 119) (x := x1) kc_50_118 rfl rfl ?_
          by_cases c18 : x1.toInt = 0
          · refine xi_iff (pc' := 122) kc_50_119 rfl (xc_ne_f (X := x1.toInt) (Y := 0) rfl (by decide) (by omega)) ?_
            refine xi_iload_n (pc' := 123) (x := x2) kc_50_122 rfl rfl ?_
            refine xi_goto (pc' := 127) kc_50_123 rfl ?_
            refine xi_ireturn kc_50_127 mr_50 rfl ?_
            exact kk x2 h K
          · refine xi_ift (pc' := 126) kc_50_119 rfl (xc_ne_t (X := x1.toInt) (Y := 0) rfl (by decide) (by omega)) ?_
            refine xi_iload_n (pc' := 127) (x := x3) kc_50_126 rfl rfl ?_
            refine xi_ireturn kc_50_127 mr_50 rfl ?_
            exact kk x3 h K
      · refine xi_cmf (pc' := 42) kc_50_39 rfl (xc_ge_f (X := x4.toInt) (Y := 64) rfl (by decide) (by omega)) ?_
        refine xi_aload_n (pc' := 43) (x := 115) kc_50_42 rfl rfl ?_
        refine xi_getfield (pc' := 46) (v := .ref 149) kc_50_43 rfl rfl rfl A14 rfl ?_
        refine xi_iload (pc' := 48) (x := x4) kc_50_46 rfl rfl ?_
        obtain ⟨y19, A19, hy19⟩ := xk_larr K.1 xD_149
        obtain ⟨v20, ev20⟩ : ∃ q : Int64, y19.getD (Int32.toNatClampNeg x4) 0 = q := ⟨_, rfl⟩
        refine xi_laload (pc' := 49) (v := v20) kc_50_48 rfl A19 rfl (xi_in (by omega) (by rw [hy19]; omega)) ev20 ?_
        refine xi_lconst (pc' := 50) (v := 0) kc_50_49 rfl rfl ?_
        obtain ⟨v21, ev21⟩ : ∃ q : Int32, lg_cmp v20 0 = q := ⟨_, rfl⟩
        have rv21 := xc_rng v21
        refine xi_lcmp (pc' := 51) (v := v21) kc_50_50 rfl ev21 ?_
        by_cases c22 : v21.toInt = 0
        · refine xi_iff (pc' := 54) kc_50_51 rfl (xc_ne_f (X := v21.toInt) (Y := 0) rfl (by decide) (by omega)) ?_
          refine xi_iload (pc' := 56) (x := x4) kc_50_54 rfl rfl ?_
          refine xi_static (mj := 49) (as := [.int x4]) (st1 := []) (lv0 := [(0, .int x4)]) kc_50_56 rfl rfl (Nat.le_of_ble_eq_true rfl) rfl rfl (Nat.le_of_ble_eq_true rfl) (hJ _ _ _ _ (by decide)) (xm_le ml_49 rfl) rfl ?_
          refine mt_49_0 hJ hov1 hov2 (d := d + 5) (x0 := x4) K.1 (fun r23 hh24 K25 => ?_)
          have br23 := xc_rng r23
          have K26 := xk_tr K K25 rfl
          obtain ⟨u27, u28, u29, u30, u31, u32, u33, u34, u35, u36, u37, u38, u39, bu27, bu28, bu29, bu30, bu31, bu32, bu33, bu34, bu35, bu36, bu37, bu38, bu39, A40⟩ := xq_115 K26.1
          have e41 : u2 = u28 := xk_eqi (q := 1) K25 rfl A14 A40 rfl rfl
          subst e41
          show xw J ov (d + 7) 50 (59, [(0, .ref 115), (1, .int x1), (2, .int x2), (3, .int x3), (4, .int x4)], [.int r23], hh24) _
          refine xi_iload_n (pc' := 60) (x := x3) kc_50_59 rfl rfl ?_
          by_cases c42 : x3.toInt ≤ r23.toInt
          · refine xi_cmt (pc' := 67) kc_50_60 rfl (xc_ge_t (X := r23.toInt) (Y := x3.toInt) rfl rfl (by omega)) ?_
            refine xi_iload (pc' := 69) (x := x4) kc_50_67 rfl rfl ?_
            refine xi_static (mj := 49) (as := [.int x4]) (st1 := []) (lv0 := [(0, .int x4)]) kc_50_69 rfl rfl (Nat.le_of_ble_eq_true rfl) rfl rfl (Nat.le_of_ble_eq_true rfl) (hJ _ _ _ _ (by decide)) (xm_le ml_49 rfl) rfl ?_
            refine mt_49_0 hJ hov1 hov2 (d := d + 5) (x0 := x4) K26.1 (fun r43 hh44 K45 => ?_)
            have br43 := xc_rng r43
            have K46 := xk_tr K26 K45 rfl
            obtain ⟨u47, u48, u49, u50, u51, u52, u53, u54, u55, u56, u57, u58, u59, bu47, bu48, bu49, bu50, bu51, bu52, bu53, bu54, bu55, bu56, bu57, bu58, bu59, A60⟩ := xq_115 K46.1
            have e61 : u2 = u48 := xk_eqi (q := 1) K45 rfl A40 A60 rfl rfl
            subst e61
            show xw J ov (d + 7) 50 (72, [(0, .ref 115), (1, .int x1), (2, .int x2), (3, .int x3), (4, .int x4)], [.int r43], hh44) _
            refine xi_iload_n (pc' := 73) (x := x3) kc_50_72 rfl rfl ?_
            by_cases c62 : r43.toInt = x3.toInt
            · refine xi_cmf (pc' := 76) kc_50_73 rfl (xc_ne_f (X := r43.toInt) (Y := x3.toInt) rfl rfl (by omega)) ?_
              refine xi_iload_n (pc' := 77) (x := x2) kc_50_76 rfl rfl ?_
              refine xi_iconst (pc' := 78) (v := 1) kc_50_77 rfl rfl ?_
              obtain ⟨v63, ev63⟩ : ∃ q : Int32, (x2 : Int32) + 1 = q := ⟨_, rfl⟩
              have rv63 := xc_rng v63
              refine xi_iadd (pc' := 79) (v := v63) kc_50_78 rfl ev63 ?_
              refine xi_goto (pc' := 83) kc_50_79 rfl ?_
              refine xi_istore_n (pc' := 84) (lv' := [(2, .int v63), (0, .ref 115), (1, .int x1), (3, .int x3), (4, .int x4)]) kc_50_83 rfl rfl (xm_lt ml_50 rfl) ?_
              refine xi_iload (pc' := 86) (x := x4) kc_50_84 rfl rfl ?_
              refine xi_static (mj := 49) (as := [.int x4]) (st1 := []) (lv0 := [(0, .int x4)]) kc_50_86 rfl rfl (Nat.le_of_ble_eq_true rfl) rfl rfl (Nat.le_of_ble_eq_true rfl) (hJ _ _ _ _ (by decide)) (xm_le ml_49 rfl) rfl ?_
              refine mt_49_0 hJ hov1 hov2 (d := d + 5) (x0 := x4) K46.1 (fun r64 hh65 K66 => ?_)
              have br64 := xc_rng r64
              have K67 := xk_tr K46 K66 rfl
              obtain ⟨u68, u69, u70, u71, u72, u73, u74, u75, u76, u77, u78, u79, u80, bu68, bu69, bu70, bu71, bu72, bu73, bu74, bu75, bu76, bu77, bu78, bu79, bu80, A81⟩ := xq_115 K67.1
              have e82 : u2 = u69 := xk_eqi (q := 1) K66 rfl A60 A81 rfl rfl
              subst e82
              show xw J ov (d + 7) 50 (89, [(2, .int v63), (0, .ref 115), (1, .int x1), (3, .int x3), (4, .int x4)], [.int r64], hh65) _
              refine xi_iload_n (pc' := 90) (x := x3) kc_50_89 rfl rfl ?_
              by_cases c83 : x3.toInt ≤ r64.toInt
              · refine xi_cmt (pc' := 101) kc_50_90 rfl (xc_ge_t (X := r64.toInt) (Y := x3.toInt) rfl rfl (by omega)) ?_
                refine xi_iload_n (pc' := 102) (x := x3) kc_50_101 rfl rfl ?_
                refine xi_istore_n (pc' := 103) (lv' := [(3, .int x3), (2, .int v63), (0, .ref 115), (1, .int x1), (4, .int x4)]) kc_50_102 rfl rfl (xm_lt ml_50 rfl) ?_
                obtain ⟨v84, ev84⟩ : ∃ q : Int32, x4 + 1 = q := ⟨_, rfl⟩
                have zv84 : v84.toInt = (x4.toInt + 1) := by rw [← ev84]; exact (xz_add (X := x4.toInt) (Y := 1) rfl (by decide) (by omega) (by omega)).trans (by omega)
                refine xi_iinc (pc' := 106) (x := x4) (v := v84) (lv' := [(4, .int v84), (3, .int x3), (2, .int v63), (0, .ref 115), (1, .int x1)]) kc_50_103 rfl rfl ev84 rfl (xm_lt ml_50 rfl) ?_
                refine xi_goto (pc' := 33) kc_50_106 rfl ?_
                refine xw_lv (b := [(0, .ref 115), (1, .int x1), (2, .int v63), (3, .int x3), (4, .int v84)]) (lvS_cons (lvS_cons (lvS_cons (lvS_cons (lvS_cons (lvS_nil (show ([4, 3, 2, 0, 1] : List Nat).Nodup by decide)) rfl) rfl) rfl) rfl) rfl) ?_
                exact i0 x1 v63 x3 v84 hh65 (by omega) (by omega) K67 (by omega)
              · refine xi_cmf (pc' := 93) kc_50_90 rfl (xc_ge_f (X := r64.toInt) (Y := x3.toInt) rfl rfl (by omega)) ?_
                refine xi_iload (pc' := 95) (x := x4) kc_50_93 rfl rfl ?_
                refine xi_static (mj := 49) (as := [.int x4]) (st1 := []) (lv0 := [(0, .int x4)]) kc_50_95 rfl rfl (Nat.le_of_ble_eq_true rfl) rfl rfl (Nat.le_of_ble_eq_true rfl) (hJ _ _ _ _ (by decide)) (xm_le ml_49 rfl) rfl ?_
                refine mt_49_0 hJ hov1 hov2 (d := d + 5) (x0 := x4) K67.1 (fun r85 hh86 K87 => ?_)
                have br85 := xc_rng r85
                have K88 := xk_tr K67 K87 rfl
                obtain ⟨u89, u90, u91, u92, u93, u94, u95, u96, u97, u98, u99, u100, u101, bu89, bu90, bu91, bu92, bu93, bu94, bu95, bu96, bu97, bu98, bu99, bu100, bu101, A102⟩ := xq_115 K88.1
                have e103 : u2 = u90 := xk_eqi (q := 1) K87 rfl A81 A102 rfl rfl
                subst e103
                show xw J ov (d + 7) 50 (98, [(2, .int v63), (0, .ref 115), (1, .int x1), (3, .int x3), (4, .int x4)], [.int r85], hh86) _
                refine xi_goto (pc' := 102) kc_50_98 rfl ?_
                refine xi_istore_n (pc' := 103) (lv' := [(3, .int r85), (2, .int v63), (0, .ref 115), (1, .int x1), (4, .int x4)]) kc_50_102 rfl rfl (xm_lt ml_50 rfl) ?_
                obtain ⟨v104, ev104⟩ : ∃ q : Int32, x4 + 1 = q := ⟨_, rfl⟩
                have zv104 : v104.toInt = (x4.toInt + 1) := by rw [← ev104]; exact (xz_add (X := x4.toInt) (Y := 1) rfl (by decide) (by omega) (by omega)).trans (by omega)
                refine xi_iinc (pc' := 106) (x := x4) (v := v104) (lv' := [(4, .int v104), (3, .int r85), (2, .int v63), (0, .ref 115), (1, .int x1)]) kc_50_103 rfl rfl ev104 rfl (xm_lt ml_50 rfl) ?_
                refine xi_goto (pc' := 33) kc_50_106 rfl ?_
                refine xw_lv (b := [(0, .ref 115), (1, .int x1), (2, .int v63), (3, .int r85), (4, .int v104)]) (lvS_cons (lvS_cons (lvS_cons (lvS_cons (lvS_cons (lvS_nil (show ([4, 3, 2, 0, 1] : List Nat).Nodup by decide)) rfl) rfl) rfl) rfl) rfl) ?_
                exact i0 x1 v63 r85 v104 hh86 (by omega) (by omega) K88 (by omega)
            · refine xi_cmt (pc' := 82) kc_50_73 rfl (xc_ne_t (X := r43.toInt) (Y := x3.toInt) rfl rfl (by omega)) ?_
              refine xi_iload_n (pc' := 83) (x := x2) kc_50_82 rfl rfl ?_
              refine xi_istore_n (pc' := 84) (lv' := [(2, .int x2), (0, .ref 115), (1, .int x1), (3, .int x3), (4, .int x4)]) kc_50_83 rfl rfl (xm_lt ml_50 rfl) ?_
              refine xi_iload (pc' := 86) (x := x4) kc_50_84 rfl rfl ?_
              refine xi_static (mj := 49) (as := [.int x4]) (st1 := []) (lv0 := [(0, .int x4)]) kc_50_86 rfl rfl (Nat.le_of_ble_eq_true rfl) rfl rfl (Nat.le_of_ble_eq_true rfl) (hJ _ _ _ _ (by decide)) (xm_le ml_49 rfl) rfl ?_
              refine mt_49_0 hJ hov1 hov2 (d := d + 5) (x0 := x4) K46.1 (fun r105 hh106 K107 => ?_)
              have br105 := xc_rng r105
              have K108 := xk_tr K46 K107 rfl
              obtain ⟨u109, u110, u111, u112, u113, u114, u115, u116, u117, u118, u119, u120, u121, bu109, bu110, bu111, bu112, bu113, bu114, bu115, bu116, bu117, bu118, bu119, bu120, bu121, A122⟩ := xq_115 K108.1
              have e123 : u2 = u110 := xk_eqi (q := 1) K107 rfl A60 A122 rfl rfl
              subst e123
              show xw J ov (d + 7) 50 (89, [(2, .int x2), (0, .ref 115), (1, .int x1), (3, .int x3), (4, .int x4)], [.int r105], hh106) _
              refine xi_iload_n (pc' := 90) (x := x3) kc_50_89 rfl rfl ?_
              by_cases c124 : x3.toInt ≤ r105.toInt
              · refine xi_cmt (pc' := 101) kc_50_90 rfl (xc_ge_t (X := r105.toInt) (Y := x3.toInt) rfl rfl (by omega)) ?_
                refine xi_iload_n (pc' := 102) (x := x3) kc_50_101 rfl rfl ?_
                refine xi_istore_n (pc' := 103) (lv' := [(3, .int x3), (2, .int x2), (0, .ref 115), (1, .int x1), (4, .int x4)]) kc_50_102 rfl rfl (xm_lt ml_50 rfl) ?_
                obtain ⟨v125, ev125⟩ : ∃ q : Int32, x4 + 1 = q := ⟨_, rfl⟩
                have zv125 : v125.toInt = (x4.toInt + 1) := by rw [← ev125]; exact (xz_add (X := x4.toInt) (Y := 1) rfl (by decide) (by omega) (by omega)).trans (by omega)
                refine xi_iinc (pc' := 106) (x := x4) (v := v125) (lv' := [(4, .int v125), (3, .int x3), (2, .int x2), (0, .ref 115), (1, .int x1)]) kc_50_103 rfl rfl ev125 rfl (xm_lt ml_50 rfl) ?_
                refine xi_goto (pc' := 33) kc_50_106 rfl ?_
                refine xw_lv (b := [(0, .ref 115), (1, .int x1), (2, .int x2), (3, .int x3), (4, .int v125)]) (lvS_cons (lvS_cons (lvS_cons (lvS_cons (lvS_cons (lvS_nil (show ([4, 3, 2, 0, 1] : List Nat).Nodup by decide)) rfl) rfl) rfl) rfl) rfl) ?_
                exact i0 x1 x2 x3 v125 hh106 (by omega) (by omega) K108 (by omega)
              · refine xi_cmf (pc' := 93) kc_50_90 rfl (xc_ge_f (X := r105.toInt) (Y := x3.toInt) rfl rfl (by omega)) ?_
                refine xi_iload (pc' := 95) (x := x4) kc_50_93 rfl rfl ?_
                refine xi_static (mj := 49) (as := [.int x4]) (st1 := []) (lv0 := [(0, .int x4)]) kc_50_95 rfl rfl (Nat.le_of_ble_eq_true rfl) rfl rfl (Nat.le_of_ble_eq_true rfl) (hJ _ _ _ _ (by decide)) (xm_le ml_49 rfl) rfl ?_
                refine mt_49_0 hJ hov1 hov2 (d := d + 5) (x0 := x4) K108.1 (fun r126 hh127 K128 => ?_)
                have br126 := xc_rng r126
                have K129 := xk_tr K108 K128 rfl
                obtain ⟨u130, u131, u132, u133, u134, u135, u136, u137, u138, u139, u140, u141, u142, bu130, bu131, bu132, bu133, bu134, bu135, bu136, bu137, bu138, bu139, bu140, bu141, bu142, A143⟩ := xq_115 K129.1
                have e144 : u2 = u131 := xk_eqi (q := 1) K128 rfl A122 A143 rfl rfl
                subst e144
                show xw J ov (d + 7) 50 (98, [(2, .int x2), (0, .ref 115), (1, .int x1), (3, .int x3), (4, .int x4)], [.int r126], hh127) _
                refine xi_goto (pc' := 102) kc_50_98 rfl ?_
                refine xi_istore_n (pc' := 103) (lv' := [(3, .int r126), (2, .int x2), (0, .ref 115), (1, .int x1), (4, .int x4)]) kc_50_102 rfl rfl (xm_lt ml_50 rfl) ?_
                obtain ⟨v145, ev145⟩ : ∃ q : Int32, x4 + 1 = q := ⟨_, rfl⟩
                have zv145 : v145.toInt = (x4.toInt + 1) := by rw [← ev145]; exact (xz_add (X := x4.toInt) (Y := 1) rfl (by decide) (by omega) (by omega)).trans (by omega)
                refine xi_iinc (pc' := 106) (x := x4) (v := v145) (lv' := [(4, .int v145), (3, .int r126), (2, .int x2), (0, .ref 115), (1, .int x1)]) kc_50_103 rfl rfl ev145 rfl (xm_lt ml_50 rfl) ?_
                refine xi_goto (pc' := 33) kc_50_106 rfl ?_
                refine xw_lv (b := [(0, .ref 115), (1, .int x1), (2, .int x2), (3, .int r126), (4, .int v145)]) (lvS_cons (lvS_cons (lvS_cons (lvS_cons (lvS_cons (lvS_nil (show ([4, 3, 2, 0, 1] : List Nat).Nodup by decide)) rfl) rfl) rfl) rfl) rfl) ?_
                exact i0 x1 x2 r126 v145 hh127 (by omega) (by omega) K129 (by omega)
          · refine xi_cmf (pc' := 63) kc_50_60 rfl (xc_ge_f (X := r23.toInt) (Y := x3.toInt) rfl rfl (by omega)) ?_
            refine xi_iconst (pc' := 64) (v := 1) kc_50_63 rfl rfl ?_
            refine xi_goto (pc' := 83) kc_50_64 rfl ?_
            refine xi_istore_n (pc' := 84) (lv' := [(2, .int 1), (0, .ref 115), (1, .int x1), (3, .int x3), (4, .int x4)]) kc_50_83 rfl rfl (xm_lt ml_50 rfl) ?_
            refine xi_iload (pc' := 86) (x := x4) kc_50_84 rfl rfl ?_
            refine xi_static (mj := 49) (as := [.int x4]) (st1 := []) (lv0 := [(0, .int x4)]) kc_50_86 rfl rfl (Nat.le_of_ble_eq_true rfl) rfl rfl (Nat.le_of_ble_eq_true rfl) (hJ _ _ _ _ (by decide)) (xm_le ml_49 rfl) rfl ?_
            refine mt_49_0 hJ hov1 hov2 (d := d + 5) (x0 := x4) K26.1 (fun r146 hh147 K148 => ?_)
            have br146 := xc_rng r146
            have K149 := xk_tr K26 K148 rfl
            obtain ⟨u150, u151, u152, u153, u154, u155, u156, u157, u158, u159, u160, u161, u162, bu150, bu151, bu152, bu153, bu154, bu155, bu156, bu157, bu158, bu159, bu160, bu161, bu162, A163⟩ := xq_115 K149.1
            have e164 : u2 = u151 := xk_eqi (q := 1) K148 rfl A40 A163 rfl rfl
            subst e164
            show xw J ov (d + 7) 50 (89, [(2, .int 1), (0, .ref 115), (1, .int x1), (3, .int x3), (4, .int x4)], [.int r146], hh147) _
            refine xi_iload_n (pc' := 90) (x := x3) kc_50_89 rfl rfl ?_
            by_cases c165 : x3.toInt ≤ r146.toInt
            · refine xi_cmt (pc' := 101) kc_50_90 rfl (xc_ge_t (X := r146.toInt) (Y := x3.toInt) rfl rfl (by omega)) ?_
              refine xi_iload_n (pc' := 102) (x := x3) kc_50_101 rfl rfl ?_
              refine xi_istore_n (pc' := 103) (lv' := [(3, .int x3), (2, .int 1), (0, .ref 115), (1, .int x1), (4, .int x4)]) kc_50_102 rfl rfl (xm_lt ml_50 rfl) ?_
              obtain ⟨v166, ev166⟩ : ∃ q : Int32, x4 + 1 = q := ⟨_, rfl⟩
              have zv166 : v166.toInt = (x4.toInt + 1) := by rw [← ev166]; exact (xz_add (X := x4.toInt) (Y := 1) rfl (by decide) (by omega) (by omega)).trans (by omega)
              refine xi_iinc (pc' := 106) (x := x4) (v := v166) (lv' := [(4, .int v166), (3, .int x3), (2, .int 1), (0, .ref 115), (1, .int x1)]) kc_50_103 rfl rfl ev166 rfl (xm_lt ml_50 rfl) ?_
              refine xi_goto (pc' := 33) kc_50_106 rfl ?_
              have zc1 : (1 : Int32).toInt = 1 := by decide
              refine xw_lv (b := [(0, .ref 115), (1, .int x1), (2, .int 1), (3, .int x3), (4, .int v166)]) (lvS_cons (lvS_cons (lvS_cons (lvS_cons (lvS_cons (lvS_nil (show ([4, 3, 2, 0, 1] : List Nat).Nodup by decide)) rfl) rfl) rfl) rfl) rfl) ?_
              exact i0 x1 1 x3 v166 hh147 (by omega) (by omega) K149 (by omega)
            · refine xi_cmf (pc' := 93) kc_50_90 rfl (xc_ge_f (X := r146.toInt) (Y := x3.toInt) rfl rfl (by omega)) ?_
              refine xi_iload (pc' := 95) (x := x4) kc_50_93 rfl rfl ?_
              refine xi_static (mj := 49) (as := [.int x4]) (st1 := []) (lv0 := [(0, .int x4)]) kc_50_95 rfl rfl (Nat.le_of_ble_eq_true rfl) rfl rfl (Nat.le_of_ble_eq_true rfl) (hJ _ _ _ _ (by decide)) (xm_le ml_49 rfl) rfl ?_
              refine mt_49_0 hJ hov1 hov2 (d := d + 5) (x0 := x4) K149.1 (fun r167 hh168 K169 => ?_)
              have br167 := xc_rng r167
              have K170 := xk_tr K149 K169 rfl
              obtain ⟨u171, u172, u173, u174, u175, u176, u177, u178, u179, u180, u181, u182, u183, bu171, bu172, bu173, bu174, bu175, bu176, bu177, bu178, bu179, bu180, bu181, bu182, bu183, A184⟩ := xq_115 K170.1
              have e185 : u2 = u172 := xk_eqi (q := 1) K169 rfl A163 A184 rfl rfl
              subst e185
              show xw J ov (d + 7) 50 (98, [(2, .int 1), (0, .ref 115), (1, .int x1), (3, .int x3), (4, .int x4)], [.int r167], hh168) _
              refine xi_goto (pc' := 102) kc_50_98 rfl ?_
              refine xi_istore_n (pc' := 103) (lv' := [(3, .int r167), (2, .int 1), (0, .ref 115), (1, .int x1), (4, .int x4)]) kc_50_102 rfl rfl (xm_lt ml_50 rfl) ?_
              obtain ⟨v186, ev186⟩ : ∃ q : Int32, x4 + 1 = q := ⟨_, rfl⟩
              have zv186 : v186.toInt = (x4.toInt + 1) := by rw [← ev186]; exact (xz_add (X := x4.toInt) (Y := 1) rfl (by decide) (by omega) (by omega)).trans (by omega)
              refine xi_iinc (pc' := 106) (x := x4) (v := v186) (lv' := [(4, .int v186), (3, .int r167), (2, .int 1), (0, .ref 115), (1, .int x1)]) kc_50_103 rfl rfl ev186 rfl (xm_lt ml_50 rfl) ?_
              refine xi_goto (pc' := 33) kc_50_106 rfl ?_
              have zc1 : (1 : Int32).toInt = 1 := by decide
              refine xw_lv (b := [(0, .ref 115), (1, .int x1), (2, .int 1), (3, .int r167), (4, .int v186)]) (lvS_cons (lvS_cons (lvS_cons (lvS_cons (lvS_cons (lvS_nil (show ([4, 3, 2, 0, 1] : List Nat).Nodup by decide)) rfl) rfl) rfl) rfl) rfl) ?_
              exact i0 x1 1 r167 v186 hh168 (by omega) (by omega) K170 (by omega)
        · have zv20c22 : v20 ≠ 0 := xj_lc ev21 (by omega)
          refine xi_ift (pc' := 103) kc_50_51 rfl (xc_ne_t (X := v21.toInt) (Y := 0) rfl (by decide) (by omega)) ?_
          obtain ⟨v187, ev187⟩ : ∃ q : Int32, x4 + 1 = q := ⟨_, rfl⟩
          have zv187 : v187.toInt = (x4.toInt + 1) := by rw [← ev187]; exact (xz_add (X := x4.toInt) (Y := 1) rfl (by decide) (by omega) (by omega)).trans (by omega)
          refine xi_iinc (pc' := 106) (x := x4) (v := v187) (lv' := [(4, .int v187), (0, .ref 115), (1, .int x1), (2, .int x2), (3, .int x3)]) kc_50_103 rfl rfl ev187 rfl (xm_lt ml_50 rfl) ?_
          refine xi_goto (pc' := 33) kc_50_106 rfl ?_
          refine xw_lv (b := [(0, .ref 115), (1, .int x1), (2, .int x2), (3, .int x3), (4, .int v187)]) (lvS_cons (lvS_cons (lvS_cons (lvS_cons (lvS_cons (lvS_nil (show ([4, 0, 1, 2, 3] : List Nat).Nodup by decide)) rfl) rfl) rfl) rfl) rfl) ?_
          exact i0 x1 x2 x3 v187 h (by omega) (by omega) K (by omega)
    · refine xi_cmf (pc' := 10) kc_42_7 rfl (xc_ge_f (X := u5.toInt) (Y := 6) rfl (by decide) (by omega)) ?_
      refine xi_aload_n (pc' := 11) (x := 115) kc_42_10 rfl rfl ?_
      refine xi_getfield (pc' := 14) (v := .int u5) kc_42_11 rfl rfl rfl A14 rfl ?_
      refine xi_goto (pc' := 19) kc_42_14 rfl ?_
      obtain ⟨v188, ev188⟩ : ∃ q : Int32, (1 : Int32) <<< (u5 &&& 31) = q := ⟨_, rfl⟩
      have rv188 := xc_rng v188
      have bv188 : 1 ≤ v188.toInt ∧ v188.toInt ≤ 64 := by rw [← ev188]; exact xj_shl6 (by omega) (by omega)
      refine xi_ishl (pc' := 20) (v := v188) kc_42_19 rfl ev188 ?_
      refine xi_ireturn kc_42_20 mr_42 rfl ?_
      show xw J ov (d + 7) 50 (39, [(0, .ref 115), (1, .int x1), (2, .int x2), (3, .int x3), (4, .int x4)], [.int v188, .int x4], h) _
      by_cases c189 : v188.toInt ≤ x4.toInt
      · refine xi_cmt (pc' := 109) kc_50_39 rfl (xc_ge_t (X := x4.toInt) (Y := v188.toInt) rfl rfl (by omega)) ?_
        refine xi_iload_n (pc' := 110) (x := x2) kc_50_109 rfl rfl ?_
        by_cases c190 : x2.toInt = 0
        · refine xi_iff (pc' := 113) kc_50_110 rfl (xc_ne_f (X := x2.toInt) (Y := 0) rfl (by decide) (by omega)) ?_
          refine xi_bipush (pc' := 115) (v := (-9)) kc_50_113 rfl rfl ?_
          refine xi_goto (pc' := 127) kc_50_115 rfl ?_
          refine xi_ireturn kc_50_127 mr_50 rfl ?_
          have zcm9 : ((-9) : Int32).toInt = (-9) := by decide
          exact kk (-9) h K
        · refine xi_ift (pc' := 118) kc_50_110 rfl (xc_ne_t (X := x2.toInt) (Y := 0) rfl (by decide) (by omega)) ?_
          refine xi_iload_n (pc' := 119) (x := x1) kc_50_118 rfl rfl ?_
          by_cases c191 : x1.toInt = 0
          · refine xi_iff (pc' := 122) kc_50_119 rfl (xc_ne_f (X := x1.toInt) (Y := 0) rfl (by decide) (by omega)) ?_
            refine xi_iload_n (pc' := 123) (x := x2) kc_50_122 rfl rfl ?_
            refine xi_goto (pc' := 127) kc_50_123 rfl ?_
            refine xi_ireturn kc_50_127 mr_50 rfl ?_
            exact kk x2 h K
          · refine xi_ift (pc' := 126) kc_50_119 rfl (xc_ne_t (X := x1.toInt) (Y := 0) rfl (by decide) (by omega)) ?_
            refine xi_iload_n (pc' := 127) (x := x3) kc_50_126 rfl rfl ?_
            refine xi_ireturn kc_50_127 mr_50 rfl ?_
            exact kk x3 h K
      · refine xi_cmf (pc' := 42) kc_50_39 rfl (xc_ge_f (X := x4.toInt) (Y := v188.toInt) rfl rfl (by omega)) ?_
        refine xi_aload_n (pc' := 43) (x := 115) kc_50_42 rfl rfl ?_
        refine xi_getfield (pc' := 46) (v := .ref 149) kc_50_43 rfl rfl rfl A14 rfl ?_
        refine xi_iload (pc' := 48) (x := x4) kc_50_46 rfl rfl ?_
        obtain ⟨y192, A192, hy192⟩ := xk_larr K.1 xD_149
        obtain ⟨v193, ev193⟩ : ∃ q : Int64, y192.getD (Int32.toNatClampNeg x4) 0 = q := ⟨_, rfl⟩
        refine xi_laload (pc' := 49) (v := v193) kc_50_48 rfl A192 rfl (xi_in (by omega) (by rw [hy192]; omega)) ev193 ?_
        refine xi_lconst (pc' := 50) (v := 0) kc_50_49 rfl rfl ?_
        obtain ⟨v194, ev194⟩ : ∃ q : Int32, lg_cmp v193 0 = q := ⟨_, rfl⟩
        have rv194 := xc_rng v194
        refine xi_lcmp (pc' := 51) (v := v194) kc_50_50 rfl ev194 ?_
        by_cases c195 : v194.toInt = 0
        · refine xi_iff (pc' := 54) kc_50_51 rfl (xc_ne_f (X := v194.toInt) (Y := 0) rfl (by decide) (by omega)) ?_
          refine xi_iload (pc' := 56) (x := x4) kc_50_54 rfl rfl ?_
          refine xi_static (mj := 49) (as := [.int x4]) (st1 := []) (lv0 := [(0, .int x4)]) kc_50_56 rfl rfl (Nat.le_of_ble_eq_true rfl) rfl rfl (Nat.le_of_ble_eq_true rfl) (hJ _ _ _ _ (by decide)) (xm_le ml_49 rfl) rfl ?_
          refine mt_49_0 hJ hov1 hov2 (d := d + 5) (x0 := x4) K.1 (fun r196 hh197 K198 => ?_)
          have br196 := xc_rng r196
          have K199 := xk_tr K K198 rfl
          obtain ⟨u200, u201, u202, u203, u204, u205, u206, u207, u208, u209, u210, u211, u212, bu200, bu201, bu202, bu203, bu204, bu205, bu206, bu207, bu208, bu209, bu210, bu211, bu212, A213⟩ := xq_115 K199.1
          have e214 : u2 = u201 := xk_eqi (q := 1) K198 rfl A14 A213 rfl rfl
          subst e214
          show xw J ov (d + 7) 50 (59, [(0, .ref 115), (1, .int x1), (2, .int x2), (3, .int x3), (4, .int x4)], [.int r196], hh197) _
          refine xi_iload_n (pc' := 60) (x := x3) kc_50_59 rfl rfl ?_
          by_cases c215 : x3.toInt ≤ r196.toInt
          · refine xi_cmt (pc' := 67) kc_50_60 rfl (xc_ge_t (X := r196.toInt) (Y := x3.toInt) rfl rfl (by omega)) ?_
            refine xi_iload (pc' := 69) (x := x4) kc_50_67 rfl rfl ?_
            refine xi_static (mj := 49) (as := [.int x4]) (st1 := []) (lv0 := [(0, .int x4)]) kc_50_69 rfl rfl (Nat.le_of_ble_eq_true rfl) rfl rfl (Nat.le_of_ble_eq_true rfl) (hJ _ _ _ _ (by decide)) (xm_le ml_49 rfl) rfl ?_
            refine mt_49_0 hJ hov1 hov2 (d := d + 5) (x0 := x4) K199.1 (fun r216 hh217 K218 => ?_)
            have br216 := xc_rng r216
            have K219 := xk_tr K199 K218 rfl
            obtain ⟨u220, u221, u222, u223, u224, u225, u226, u227, u228, u229, u230, u231, u232, bu220, bu221, bu222, bu223, bu224, bu225, bu226, bu227, bu228, bu229, bu230, bu231, bu232, A233⟩ := xq_115 K219.1
            have e234 : u2 = u221 := xk_eqi (q := 1) K218 rfl A213 A233 rfl rfl
            subst e234
            show xw J ov (d + 7) 50 (72, [(0, .ref 115), (1, .int x1), (2, .int x2), (3, .int x3), (4, .int x4)], [.int r216], hh217) _
            refine xi_iload_n (pc' := 73) (x := x3) kc_50_72 rfl rfl ?_
            by_cases c235 : r216.toInt = x3.toInt
            · refine xi_cmf (pc' := 76) kc_50_73 rfl (xc_ne_f (X := r216.toInt) (Y := x3.toInt) rfl rfl (by omega)) ?_
              refine xi_iload_n (pc' := 77) (x := x2) kc_50_76 rfl rfl ?_
              refine xi_iconst (pc' := 78) (v := 1) kc_50_77 rfl rfl ?_
              obtain ⟨v236, ev236⟩ : ∃ q : Int32, (x2 : Int32) + 1 = q := ⟨_, rfl⟩
              have rv236 := xc_rng v236
              refine xi_iadd (pc' := 79) (v := v236) kc_50_78 rfl ev236 ?_
              refine xi_goto (pc' := 83) kc_50_79 rfl ?_
              refine xi_istore_n (pc' := 84) (lv' := [(2, .int v236), (0, .ref 115), (1, .int x1), (3, .int x3), (4, .int x4)]) kc_50_83 rfl rfl (xm_lt ml_50 rfl) ?_
              refine xi_iload (pc' := 86) (x := x4) kc_50_84 rfl rfl ?_
              refine xi_static (mj := 49) (as := [.int x4]) (st1 := []) (lv0 := [(0, .int x4)]) kc_50_86 rfl rfl (Nat.le_of_ble_eq_true rfl) rfl rfl (Nat.le_of_ble_eq_true rfl) (hJ _ _ _ _ (by decide)) (xm_le ml_49 rfl) rfl ?_
              refine mt_49_0 hJ hov1 hov2 (d := d + 5) (x0 := x4) K219.1 (fun r237 hh238 K239 => ?_)
              have br237 := xc_rng r237
              have K240 := xk_tr K219 K239 rfl
              obtain ⟨u241, u242, u243, u244, u245, u246, u247, u248, u249, u250, u251, u252, u253, bu241, bu242, bu243, bu244, bu245, bu246, bu247, bu248, bu249, bu250, bu251, bu252, bu253, A254⟩ := xq_115 K240.1
              have e255 : u2 = u242 := xk_eqi (q := 1) K239 rfl A233 A254 rfl rfl
              subst e255
              show xw J ov (d + 7) 50 (89, [(2, .int v236), (0, .ref 115), (1, .int x1), (3, .int x3), (4, .int x4)], [.int r237], hh238) _
              refine xi_iload_n (pc' := 90) (x := x3) kc_50_89 rfl rfl ?_
              by_cases c256 : x3.toInt ≤ r237.toInt
              · refine xi_cmt (pc' := 101) kc_50_90 rfl (xc_ge_t (X := r237.toInt) (Y := x3.toInt) rfl rfl (by omega)) ?_
                refine xi_iload_n (pc' := 102) (x := x3) kc_50_101 rfl rfl ?_
                refine xi_istore_n (pc' := 103) (lv' := [(3, .int x3), (2, .int v236), (0, .ref 115), (1, .int x1), (4, .int x4)]) kc_50_102 rfl rfl (xm_lt ml_50 rfl) ?_
                obtain ⟨v257, ev257⟩ : ∃ q : Int32, x4 + 1 = q := ⟨_, rfl⟩
                have zv257 : v257.toInt = (x4.toInt + 1) := by rw [← ev257]; exact (xz_add (X := x4.toInt) (Y := 1) rfl (by decide) (by omega) (by omega)).trans (by omega)
                refine xi_iinc (pc' := 106) (x := x4) (v := v257) (lv' := [(4, .int v257), (3, .int x3), (2, .int v236), (0, .ref 115), (1, .int x1)]) kc_50_103 rfl rfl ev257 rfl (xm_lt ml_50 rfl) ?_
                refine xi_goto (pc' := 33) kc_50_106 rfl ?_
                refine xw_lv (b := [(0, .ref 115), (1, .int x1), (2, .int v236), (3, .int x3), (4, .int v257)]) (lvS_cons (lvS_cons (lvS_cons (lvS_cons (lvS_cons (lvS_nil (show ([4, 3, 2, 0, 1] : List Nat).Nodup by decide)) rfl) rfl) rfl) rfl) rfl) ?_
                exact i0 x1 v236 x3 v257 hh238 (by omega) (by omega) K240 (by omega)
              · refine xi_cmf (pc' := 93) kc_50_90 rfl (xc_ge_f (X := r237.toInt) (Y := x3.toInt) rfl rfl (by omega)) ?_
                refine xi_iload (pc' := 95) (x := x4) kc_50_93 rfl rfl ?_
                refine xi_static (mj := 49) (as := [.int x4]) (st1 := []) (lv0 := [(0, .int x4)]) kc_50_95 rfl rfl (Nat.le_of_ble_eq_true rfl) rfl rfl (Nat.le_of_ble_eq_true rfl) (hJ _ _ _ _ (by decide)) (xm_le ml_49 rfl) rfl ?_
                refine mt_49_0 hJ hov1 hov2 (d := d + 5) (x0 := x4) K240.1 (fun r258 hh259 K260 => ?_)
                have br258 := xc_rng r258
                have K261 := xk_tr K240 K260 rfl
                obtain ⟨u262, u263, u264, u265, u266, u267, u268, u269, u270, u271, u272, u273, u274, bu262, bu263, bu264, bu265, bu266, bu267, bu268, bu269, bu270, bu271, bu272, bu273, bu274, A275⟩ := xq_115 K261.1
                have e276 : u2 = u263 := xk_eqi (q := 1) K260 rfl A254 A275 rfl rfl
                subst e276
                show xw J ov (d + 7) 50 (98, [(2, .int v236), (0, .ref 115), (1, .int x1), (3, .int x3), (4, .int x4)], [.int r258], hh259) _
                refine xi_goto (pc' := 102) kc_50_98 rfl ?_
                refine xi_istore_n (pc' := 103) (lv' := [(3, .int r258), (2, .int v236), (0, .ref 115), (1, .int x1), (4, .int x4)]) kc_50_102 rfl rfl (xm_lt ml_50 rfl) ?_
                obtain ⟨v277, ev277⟩ : ∃ q : Int32, x4 + 1 = q := ⟨_, rfl⟩
                have zv277 : v277.toInt = (x4.toInt + 1) := by rw [← ev277]; exact (xz_add (X := x4.toInt) (Y := 1) rfl (by decide) (by omega) (by omega)).trans (by omega)
                refine xi_iinc (pc' := 106) (x := x4) (v := v277) (lv' := [(4, .int v277), (3, .int r258), (2, .int v236), (0, .ref 115), (1, .int x1)]) kc_50_103 rfl rfl ev277 rfl (xm_lt ml_50 rfl) ?_
                refine xi_goto (pc' := 33) kc_50_106 rfl ?_
                refine xw_lv (b := [(0, .ref 115), (1, .int x1), (2, .int v236), (3, .int r258), (4, .int v277)]) (lvS_cons (lvS_cons (lvS_cons (lvS_cons (lvS_cons (lvS_nil (show ([4, 3, 2, 0, 1] : List Nat).Nodup by decide)) rfl) rfl) rfl) rfl) rfl) ?_
                exact i0 x1 v236 r258 v277 hh259 (by omega) (by omega) K261 (by omega)
            · refine xi_cmt (pc' := 82) kc_50_73 rfl (xc_ne_t (X := r216.toInt) (Y := x3.toInt) rfl rfl (by omega)) ?_
              refine xi_iload_n (pc' := 83) (x := x2) kc_50_82 rfl rfl ?_
              refine xi_istore_n (pc' := 84) (lv' := [(2, .int x2), (0, .ref 115), (1, .int x1), (3, .int x3), (4, .int x4)]) kc_50_83 rfl rfl (xm_lt ml_50 rfl) ?_
              refine xi_iload (pc' := 86) (x := x4) kc_50_84 rfl rfl ?_
              refine xi_static (mj := 49) (as := [.int x4]) (st1 := []) (lv0 := [(0, .int x4)]) kc_50_86 rfl rfl (Nat.le_of_ble_eq_true rfl) rfl rfl (Nat.le_of_ble_eq_true rfl) (hJ _ _ _ _ (by decide)) (xm_le ml_49 rfl) rfl ?_
              refine mt_49_0 hJ hov1 hov2 (d := d + 5) (x0 := x4) K219.1 (fun r278 hh279 K280 => ?_)
              have br278 := xc_rng r278
              have K281 := xk_tr K219 K280 rfl
              obtain ⟨u282, u283, u284, u285, u286, u287, u288, u289, u290, u291, u292, u293, u294, bu282, bu283, bu284, bu285, bu286, bu287, bu288, bu289, bu290, bu291, bu292, bu293, bu294, A295⟩ := xq_115 K281.1
              have e296 : u2 = u283 := xk_eqi (q := 1) K280 rfl A233 A295 rfl rfl
              subst e296
              show xw J ov (d + 7) 50 (89, [(2, .int x2), (0, .ref 115), (1, .int x1), (3, .int x3), (4, .int x4)], [.int r278], hh279) _
              refine xi_iload_n (pc' := 90) (x := x3) kc_50_89 rfl rfl ?_
              by_cases c297 : x3.toInt ≤ r278.toInt
              · refine xi_cmt (pc' := 101) kc_50_90 rfl (xc_ge_t (X := r278.toInt) (Y := x3.toInt) rfl rfl (by omega)) ?_
                refine xi_iload_n (pc' := 102) (x := x3) kc_50_101 rfl rfl ?_
                refine xi_istore_n (pc' := 103) (lv' := [(3, .int x3), (2, .int x2), (0, .ref 115), (1, .int x1), (4, .int x4)]) kc_50_102 rfl rfl (xm_lt ml_50 rfl) ?_
                obtain ⟨v298, ev298⟩ : ∃ q : Int32, x4 + 1 = q := ⟨_, rfl⟩
                have zv298 : v298.toInt = (x4.toInt + 1) := by rw [← ev298]; exact (xz_add (X := x4.toInt) (Y := 1) rfl (by decide) (by omega) (by omega)).trans (by omega)
                refine xi_iinc (pc' := 106) (x := x4) (v := v298) (lv' := [(4, .int v298), (3, .int x3), (2, .int x2), (0, .ref 115), (1, .int x1)]) kc_50_103 rfl rfl ev298 rfl (xm_lt ml_50 rfl) ?_
                refine xi_goto (pc' := 33) kc_50_106 rfl ?_
                refine xw_lv (b := [(0, .ref 115), (1, .int x1), (2, .int x2), (3, .int x3), (4, .int v298)]) (lvS_cons (lvS_cons (lvS_cons (lvS_cons (lvS_cons (lvS_nil (show ([4, 3, 2, 0, 1] : List Nat).Nodup by decide)) rfl) rfl) rfl) rfl) rfl) ?_
                exact i0 x1 x2 x3 v298 hh279 (by omega) (by omega) K281 (by omega)
              · refine xi_cmf (pc' := 93) kc_50_90 rfl (xc_ge_f (X := r278.toInt) (Y := x3.toInt) rfl rfl (by omega)) ?_
                refine xi_iload (pc' := 95) (x := x4) kc_50_93 rfl rfl ?_
                refine xi_static (mj := 49) (as := [.int x4]) (st1 := []) (lv0 := [(0, .int x4)]) kc_50_95 rfl rfl (Nat.le_of_ble_eq_true rfl) rfl rfl (Nat.le_of_ble_eq_true rfl) (hJ _ _ _ _ (by decide)) (xm_le ml_49 rfl) rfl ?_
                refine mt_49_0 hJ hov1 hov2 (d := d + 5) (x0 := x4) K281.1 (fun r299 hh300 K301 => ?_)
                have br299 := xc_rng r299
                have K302 := xk_tr K281 K301 rfl
                obtain ⟨u303, u304, u305, u306, u307, u308, u309, u310, u311, u312, u313, u314, u315, bu303, bu304, bu305, bu306, bu307, bu308, bu309, bu310, bu311, bu312, bu313, bu314, bu315, A316⟩ := xq_115 K302.1
                have e317 : u2 = u304 := xk_eqi (q := 1) K301 rfl A295 A316 rfl rfl
                subst e317
                show xw J ov (d + 7) 50 (98, [(2, .int x2), (0, .ref 115), (1, .int x1), (3, .int x3), (4, .int x4)], [.int r299], hh300) _
                refine xi_goto (pc' := 102) kc_50_98 rfl ?_
                refine xi_istore_n (pc' := 103) (lv' := [(3, .int r299), (2, .int x2), (0, .ref 115), (1, .int x1), (4, .int x4)]) kc_50_102 rfl rfl (xm_lt ml_50 rfl) ?_
                obtain ⟨v318, ev318⟩ : ∃ q : Int32, x4 + 1 = q := ⟨_, rfl⟩
                have zv318 : v318.toInt = (x4.toInt + 1) := by rw [← ev318]; exact (xz_add (X := x4.toInt) (Y := 1) rfl (by decide) (by omega) (by omega)).trans (by omega)
                refine xi_iinc (pc' := 106) (x := x4) (v := v318) (lv' := [(4, .int v318), (3, .int r299), (2, .int x2), (0, .ref 115), (1, .int x1)]) kc_50_103 rfl rfl ev318 rfl (xm_lt ml_50 rfl) ?_
                refine xi_goto (pc' := 33) kc_50_106 rfl ?_
                refine xw_lv (b := [(0, .ref 115), (1, .int x1), (2, .int x2), (3, .int r299), (4, .int v318)]) (lvS_cons (lvS_cons (lvS_cons (lvS_cons (lvS_cons (lvS_nil (show ([4, 3, 2, 0, 1] : List Nat).Nodup by decide)) rfl) rfl) rfl) rfl) rfl) ?_
                exact i0 x1 x2 r299 v318 hh300 (by omega) (by omega) K302 (by omega)
          · refine xi_cmf (pc' := 63) kc_50_60 rfl (xc_ge_f (X := r196.toInt) (Y := x3.toInt) rfl rfl (by omega)) ?_
            refine xi_iconst (pc' := 64) (v := 1) kc_50_63 rfl rfl ?_
            refine xi_goto (pc' := 83) kc_50_64 rfl ?_
            refine xi_istore_n (pc' := 84) (lv' := [(2, .int 1), (0, .ref 115), (1, .int x1), (3, .int x3), (4, .int x4)]) kc_50_83 rfl rfl (xm_lt ml_50 rfl) ?_
            refine xi_iload (pc' := 86) (x := x4) kc_50_84 rfl rfl ?_
            refine xi_static (mj := 49) (as := [.int x4]) (st1 := []) (lv0 := [(0, .int x4)]) kc_50_86 rfl rfl (Nat.le_of_ble_eq_true rfl) rfl rfl (Nat.le_of_ble_eq_true rfl) (hJ _ _ _ _ (by decide)) (xm_le ml_49 rfl) rfl ?_
            refine mt_49_0 hJ hov1 hov2 (d := d + 5) (x0 := x4) K199.1 (fun r319 hh320 K321 => ?_)
            have br319 := xc_rng r319
            have K322 := xk_tr K199 K321 rfl
            obtain ⟨u323, u324, u325, u326, u327, u328, u329, u330, u331, u332, u333, u334, u335, bu323, bu324, bu325, bu326, bu327, bu328, bu329, bu330, bu331, bu332, bu333, bu334, bu335, A336⟩ := xq_115 K322.1
            have e337 : u2 = u324 := xk_eqi (q := 1) K321 rfl A213 A336 rfl rfl
            subst e337
            show xw J ov (d + 7) 50 (89, [(2, .int 1), (0, .ref 115), (1, .int x1), (3, .int x3), (4, .int x4)], [.int r319], hh320) _
            refine xi_iload_n (pc' := 90) (x := x3) kc_50_89 rfl rfl ?_
            by_cases c338 : x3.toInt ≤ r319.toInt
            · refine xi_cmt (pc' := 101) kc_50_90 rfl (xc_ge_t (X := r319.toInt) (Y := x3.toInt) rfl rfl (by omega)) ?_
              refine xi_iload_n (pc' := 102) (x := x3) kc_50_101 rfl rfl ?_
              refine xi_istore_n (pc' := 103) (lv' := [(3, .int x3), (2, .int 1), (0, .ref 115), (1, .int x1), (4, .int x4)]) kc_50_102 rfl rfl (xm_lt ml_50 rfl) ?_
              obtain ⟨v339, ev339⟩ : ∃ q : Int32, x4 + 1 = q := ⟨_, rfl⟩
              have zv339 : v339.toInt = (x4.toInt + 1) := by rw [← ev339]; exact (xz_add (X := x4.toInt) (Y := 1) rfl (by decide) (by omega) (by omega)).trans (by omega)
              refine xi_iinc (pc' := 106) (x := x4) (v := v339) (lv' := [(4, .int v339), (3, .int x3), (2, .int 1), (0, .ref 115), (1, .int x1)]) kc_50_103 rfl rfl ev339 rfl (xm_lt ml_50 rfl) ?_
              refine xi_goto (pc' := 33) kc_50_106 rfl ?_
              have zc1 : (1 : Int32).toInt = 1 := by decide
              refine xw_lv (b := [(0, .ref 115), (1, .int x1), (2, .int 1), (3, .int x3), (4, .int v339)]) (lvS_cons (lvS_cons (lvS_cons (lvS_cons (lvS_cons (lvS_nil (show ([4, 3, 2, 0, 1] : List Nat).Nodup by decide)) rfl) rfl) rfl) rfl) rfl) ?_
              exact i0 x1 1 x3 v339 hh320 (by omega) (by omega) K322 (by omega)
            · refine xi_cmf (pc' := 93) kc_50_90 rfl (xc_ge_f (X := r319.toInt) (Y := x3.toInt) rfl rfl (by omega)) ?_
              refine xi_iload (pc' := 95) (x := x4) kc_50_93 rfl rfl ?_
              refine xi_static (mj := 49) (as := [.int x4]) (st1 := []) (lv0 := [(0, .int x4)]) kc_50_95 rfl rfl (Nat.le_of_ble_eq_true rfl) rfl rfl (Nat.le_of_ble_eq_true rfl) (hJ _ _ _ _ (by decide)) (xm_le ml_49 rfl) rfl ?_
              refine mt_49_0 hJ hov1 hov2 (d := d + 5) (x0 := x4) K322.1 (fun r340 hh341 K342 => ?_)
              have br340 := xc_rng r340
              have K343 := xk_tr K322 K342 rfl
              obtain ⟨u344, u345, u346, u347, u348, u349, u350, u351, u352, u353, u354, u355, u356, bu344, bu345, bu346, bu347, bu348, bu349, bu350, bu351, bu352, bu353, bu354, bu355, bu356, A357⟩ := xq_115 K343.1
              have e358 : u2 = u345 := xk_eqi (q := 1) K342 rfl A336 A357 rfl rfl
              subst e358
              show xw J ov (d + 7) 50 (98, [(2, .int 1), (0, .ref 115), (1, .int x1), (3, .int x3), (4, .int x4)], [.int r340], hh341) _
              refine xi_goto (pc' := 102) kc_50_98 rfl ?_
              refine xi_istore_n (pc' := 103) (lv' := [(3, .int r340), (2, .int 1), (0, .ref 115), (1, .int x1), (4, .int x4)]) kc_50_102 rfl rfl (xm_lt ml_50 rfl) ?_
              obtain ⟨v359, ev359⟩ : ∃ q : Int32, x4 + 1 = q := ⟨_, rfl⟩
              have zv359 : v359.toInt = (x4.toInt + 1) := by rw [← ev359]; exact (xz_add (X := x4.toInt) (Y := 1) rfl (by decide) (by omega) (by omega)).trans (by omega)
              refine xi_iinc (pc' := 106) (x := x4) (v := v359) (lv' := [(4, .int v359), (3, .int r340), (2, .int 1), (0, .ref 115), (1, .int x1)]) kc_50_103 rfl rfl ev359 rfl (xm_lt ml_50 rfl) ?_
              refine xi_goto (pc' := 33) kc_50_106 rfl ?_
              have zc1 : (1 : Int32).toInt = 1 := by decide
              refine xw_lv (b := [(0, .ref 115), (1, .int x1), (2, .int 1), (3, .int r340), (4, .int v359)]) (lvS_cons (lvS_cons (lvS_cons (lvS_cons (lvS_cons (lvS_nil (show ([4, 3, 2, 0, 1] : List Nat).Nodup by decide)) rfl) rfl) rfl) rfl) rfl) ?_
              exact i0 x1 1 r340 v359 hh341 (by omega) (by omega) K343 (by omega)
        · have zv193c195 : v193 ≠ 0 := xj_lc ev194 (by omega)
          refine xi_ift (pc' := 103) kc_50_51 rfl (xc_ne_t (X := v194.toInt) (Y := 0) rfl (by decide) (by omega)) ?_
          obtain ⟨v360, ev360⟩ : ∃ q : Int32, x4 + 1 = q := ⟨_, rfl⟩
          have zv360 : v360.toInt = (x4.toInt + 1) := by rw [← ev360]; exact (xz_add (X := x4.toInt) (Y := 1) rfl (by decide) (by omega) (by omega)).trans (by omega)
          refine xi_iinc (pc' := 106) (x := x4) (v := v360) (lv' := [(4, .int v360), (0, .ref 115), (1, .int x1), (2, .int x2), (3, .int x3)]) kc_50_103 rfl rfl ev360 rfl (xm_lt ml_50 rfl) ?_
          refine xi_goto (pc' := 33) kc_50_106 rfl ?_
          refine xw_lv (b := [(0, .ref 115), (1, .int x1), (2, .int x2), (3, .int x3), (4, .int v360)]) (lvS_cons (lvS_cons (lvS_cons (lvS_cons (lvS_cons (lvS_nil (show ([4, 0, 1, 2, 3] : List Nat).Nodup by decide)) rfl) rfl) rfl) rfl) rfl) ?_
          exact i0 x1 x2 x3 v360 h (by omega) (by omega) K (by omega)
set_option maxHeartbeats 4000000 in
theorem mt_50_0 {J : xe_J} {ov : List (List Int32)} (hJ : ∀ d mj as h, mj ≠ xe_loff → J d mj as h = none) (hov1 : ov[1]? = some [10, 0, 0, 0, 0, 0]) (hov2 : ov[2]? = some [99, 30, 50, 50, 1, 99999]) {d : Nat} {Q : Option Value → xe_H → Prop} {h : xe_H} {x1 : Int32} (T : xt h) (kk : (∀ (r : Int32) (h' : xe_H), xk [(0, 9), (115, 1), (83, 0), (6, 0), (123, 0), (9, 0), (124, 0), (7, 0), (10, 0), (5, 0), (8, 0)] h h' → Q (some (.int r)) h')) : xw J ov (d + 7) 50 (0, [(0, .ref 115), (1, .int x1)], [], h) Q := by
  have K : xk [(0, 9), (115, 1), (83, 0), (6, 0), (123, 0), (9, 0), (124, 0), (7, 0), (10, 0), (5, 0), (8, 0)] h h := xk_re T
  have rx1 := xc_rng x1
  refine xi_aload_n (pc' := 1) (x := 115) kc_50_0 rfl rfl ?_
  refine xi_iconst (pc' := 2) (v := 0) kc_50_1 rfl rfl ?_
  obtain ⟨u1, u2, u3, u4, u5, u6, u7, u8, u9, u10, u11, u12, u13, bu1, bu2, bu3, bu4, bu5, bu6, bu7, bu8, bu9, bu10, bu11, bu12, bu13, A14⟩ := xq_115 K.1
  refine xi_putfield (pc' := 5) (fs' := [.int 0, .int u2, .ref 116, .ref 117, .ref 118, .ref 119, .ref 120, .ref 121, .ref 122, .ref 123, .ref 124, .ref 125, .ref 126, .ref 127, .ref 128, .ref 129, .int u3, .ref 130, .int u4, .ref 131, .ref 132, .ref 133, .ref 134, .int u5, .ref 135, .ref 136, .ref 137, .ref 138, .ref 139, .ref 140, .ref 141, .ref 142, .int u6, .int u7, .int u8, .ref 143, .ref 144, .ref 145, .ref 146, .ref 147, .ref 148, .int u9, .ref 149, .ref 150, .ref 151, .int u10, .ref 152, .ref 153, .ref 154, .ref 155, .ref 156, .ref 157, .ref 158, .ref 159, .int u11, .ref 160, .int u12, .ref 161, .ref 162, .ref 163, .ref 164, .int u13, .ref 165, .ref 166]) kc_50_2 rfl rfl rfl A14 rfl rfl rfl (Nat.le_of_ble_eq_true rfl) rfl (fun hh16 eh15 => ?_)
  have K17 := xk_pf (k := 0) (v := 0) K (xk_wf rfl) xD_115 A14 rfl (by first | omega | decide) (by first | omega | decide) eh15 rfl
  refine xi_iload_n (pc' := 6) (x := x1) kc_50_5 rfl rfl ?_
  refine xi_iconst (pc' := 7) (v := 0) kc_50_6 rfl rfl ?_
  refine xi_iconst (pc' := 8) (v := 1) kc_50_7 rfl rfl ?_
  refine xi_static (mj := 11) (as := [.int x1, .int 0, .int 1]) (st1 := []) (lv0 := [(0, .int x1), (1, .int 0), (2, .int 1)]) kc_50_8 rfl rfl (Nat.le_of_ble_eq_true rfl) rfl rfl (Nat.le_of_ble_eq_true rfl) (hJ _ _ _ _ (by decide)) (xm_le ml_11 rfl) rfl ?_
  refine xi_iload_n (pc' := 1) (x := x1) kc_11_0 rfl rfl ?_
  refine xi_iload_n (pc' := 2) (x := 0) kc_11_1 rfl rfl ?_
  by_cases c18 : x1.toInt < 0
  · refine xi_cmt (pc' := 14) kc_11_2 rfl (xc_lt_t (X := x1.toInt) (Y := 0) rfl (by decide) (by omega)) ?_
    refine xi_iconst (pc' := 15) (v := 0) kc_11_14 rfl rfl ?_
    refine xi_ireturn kc_11_15 mr_11 rfl ?_
    show xw J ov (d + 7) 50 (11, [(0, .ref 115), (1, .int x1)], [.int 0], hh16) _
    refine xi_iff (pc' := 14) kc_50_11 rfl rfl ?_
    refine xi_aload_n (pc' := 15) (x := 115) kc_50_14 rfl rfl ?_
    refine xi_bipush (pc' := 17) (v := (-2)) kc_50_15 rfl rfl ?_
    refine xi_virtual (mj := 12) (as := [.int (-2)]) (st1 := []) (lv0 := [(0, .ref 115), (1, .int (-2))]) kc_50_17 rfl rfl rfl rfl rfl eh15.1 (Nat.le_of_ble_eq_true rfl) (hJ _ _ _ _ (by decide)) (xm_le ml_12 rfl) rfl ?_
    refine xi_aload_n (pc' := 1) (x := 115) kc_12_0 rfl rfl ?_
    refine xi_getfield (pc' := 4) (v := .ref 140) kc_12_1 rfl rfl rfl eh15.1 rfl ?_
    refine xi_iload_n (pc' := 5) (x := (-2)) kc_12_4 rfl rfl ?_
    refine xi_ineg (pc' := 6) (v := 2) kc_12_5 rfl rfl ?_
    refine xi_dup2 (pc' := 7) kc_12_6 rfl ⟨rfl, rfl⟩ ?_
    obtain ⟨y19, A19, hy19, ry19⟩ := xk_arr K17.1 xD_140
    obtain ⟨v20, ev20, bv20, dv20⟩ := xj_get hy19 ry19 (i := 2) (by decide) (by decide)
    refine xi_iaload (pc' := 8) (v := v20) kc_12_7 rfl A19 (by decide) rfl (xi_in (by decide) (by rw [hy19]; decide)) ev20 ?_
    refine xi_iconst (pc' := 9) (v := 1) kc_12_8 rfl rfl ?_
    obtain ⟨v21, ev21⟩ : ∃ q : Int32, (v20 : Int32) + 1 = q := ⟨_, rfl⟩
    have rv21 := xc_rng v21
    refine xi_iadd (pc' := 10) (v := v21) kc_12_9 rfl ev21 ?_
    obtain ⟨y22, s22, hy22, ry22⟩ := xj_set (v := v21) hy19 ry19 2 (by first | omega | decide) (by first | omega | decide)
    refine xi_iastore (pc' := 11) (x' := y22) kc_12_10 rfl A19 rfl (xi_in (by decide) (by rw [hy19]; decide)) s22 (fun hh22 eh22 => ?_)
    have K23 := xk_pa K17 (xk_wa rfl) xD_140 hy22 ry22 eh22
    refine xi_iload_n (pc' := 12) (x := (-2)) kc_12_11 rfl rfl ?_
    refine xi_ireturn kc_12_12 mr_12 rfl ?_
    show xw J ov (d + 7) 50 (20, [(0, .ref 115), (1, .int x1)], [.int (-2)], hh22) _
    refine xi_ireturn kc_50_20 mr_50 rfl ?_
    have zcm2 : ((-2) : Int32).toInt = (-2) := by decide
    exact kk (-2) hh22 K23
  · refine xi_cmf (pc' := 5) kc_11_2 rfl (xc_lt_f (X := x1.toInt) (Y := 0) rfl (by decide) (by omega)) ?_
    refine xi_iload_n (pc' := 6) (x := x1) kc_11_5 rfl rfl ?_
    refine xi_iload_n (pc' := 7) (x := 1) kc_11_6 rfl rfl ?_
    by_cases c24 : 1 < x1.toInt
    · refine xi_cmt (pc' := 14) kc_11_7 rfl (xc_gt_t (X := x1.toInt) (Y := 1) rfl (by decide) (by omega)) ?_
      refine xi_iconst (pc' := 15) (v := 0) kc_11_14 rfl rfl ?_
      refine xi_ireturn kc_11_15 mr_11 rfl ?_
      show xw J ov (d + 7) 50 (11, [(0, .ref 115), (1, .int x1)], [.int 0], hh16) _
      refine xi_iff (pc' := 14) kc_50_11 rfl rfl ?_
      refine xi_aload_n (pc' := 15) (x := 115) kc_50_14 rfl rfl ?_
      refine xi_bipush (pc' := 17) (v := (-2)) kc_50_15 rfl rfl ?_
      refine xi_virtual (mj := 12) (as := [.int (-2)]) (st1 := []) (lv0 := [(0, .ref 115), (1, .int (-2))]) kc_50_17 rfl rfl rfl rfl rfl eh15.1 (Nat.le_of_ble_eq_true rfl) (hJ _ _ _ _ (by decide)) (xm_le ml_12 rfl) rfl ?_
      refine xi_aload_n (pc' := 1) (x := 115) kc_12_0 rfl rfl ?_
      refine xi_getfield (pc' := 4) (v := .ref 140) kc_12_1 rfl rfl rfl eh15.1 rfl ?_
      refine xi_iload_n (pc' := 5) (x := (-2)) kc_12_4 rfl rfl ?_
      refine xi_ineg (pc' := 6) (v := 2) kc_12_5 rfl rfl ?_
      refine xi_dup2 (pc' := 7) kc_12_6 rfl ⟨rfl, rfl⟩ ?_
      obtain ⟨y25, A25, hy25, ry25⟩ := xk_arr K17.1 xD_140
      obtain ⟨v26, ev26, bv26, dv26⟩ := xj_get hy25 ry25 (i := 2) (by decide) (by decide)
      refine xi_iaload (pc' := 8) (v := v26) kc_12_7 rfl A25 (by decide) rfl (xi_in (by decide) (by rw [hy25]; decide)) ev26 ?_
      refine xi_iconst (pc' := 9) (v := 1) kc_12_8 rfl rfl ?_
      obtain ⟨v27, ev27⟩ : ∃ q : Int32, (v26 : Int32) + 1 = q := ⟨_, rfl⟩
      have rv27 := xc_rng v27
      refine xi_iadd (pc' := 10) (v := v27) kc_12_9 rfl ev27 ?_
      obtain ⟨y28, s28, hy28, ry28⟩ := xj_set (v := v27) hy25 ry25 2 (by first | omega | decide) (by first | omega | decide)
      refine xi_iastore (pc' := 11) (x' := y28) kc_12_10 rfl A25 rfl (xi_in (by decide) (by rw [hy25]; decide)) s28 (fun hh28 eh28 => ?_)
      have K29 := xk_pa K17 (xk_wa rfl) xD_140 hy28 ry28 eh28
      refine xi_iload_n (pc' := 12) (x := (-2)) kc_12_11 rfl rfl ?_
      refine xi_ireturn kc_12_12 mr_12 rfl ?_
      show xw J ov (d + 7) 50 (20, [(0, .ref 115), (1, .int x1)], [.int (-2)], hh28) _
      refine xi_ireturn kc_50_20 mr_50 rfl ?_
      have zcm2 : ((-2) : Int32).toInt = (-2) := by decide
      exact kk (-2) hh28 K29
    · refine xi_cmf (pc' := 10) kc_11_7 rfl (xc_gt_f (X := x1.toInt) (Y := 1) rfl (by decide) (by omega)) ?_
      refine xi_iconst (pc' := 11) (v := 1) kc_11_10 rfl rfl ?_
      refine xi_goto (pc' := 15) kc_11_11 rfl ?_
      refine xi_ireturn kc_11_15 mr_11 rfl ?_
      show xw J ov (d + 7) 50 (11, [(0, .ref 115), (1, .int x1)], [.int 1], hh16) _
      refine xi_ift (pc' := 21) kc_50_11 rfl rfl ?_
      refine xi_aload_n (pc' := 22) (x := 115) kc_50_21 rfl rfl ?_
      refine xi_virtual (mj := 43) (as := []) (st1 := []) (lv0 := [(0, .ref 115)]) kc_50_22 rfl rfl rfl rfl rfl eh15.1 (Nat.le_of_ble_eq_true rfl) (hJ _ _ _ _ (by decide)) (xm_le ml_43 rfl) rfl ?_
      refine mt_43_0 hJ hov1 hov2 (d := d)  K17.1 (fun hh31 K32 => ?_)
      have K33 := xk_tr K17 K32 rfl
      obtain ⟨u34, u35, u36, u37, u38, u39, u40, u41, u42, u43, u44, u45, u46, bu34, bu35, bu36, bu37, bu38, bu39, bu40, bu41, bu42, bu43, bu44, bu45, bu46, A47⟩ := xq_115 K33.1
      have e48 : u2 = u35 := xk_eqi (q := 1) K32 rfl eh15.1 A47 rfl rfl
      subst e48
      show xw J ov (d + 7) 50 (25, [(0, .ref 115), (1, .int x1)], [], hh31) _
      refine xi_iconst (pc' := 26) (v := 0) kc_50_25 rfl rfl ?_
      refine xi_istore_n (pc' := 27) (lv' := [(2, .int 0), (0, .ref 115), (1, .int x1)]) kc_50_26 rfl rfl (xm_lt ml_50 rfl) ?_
      refine xi_bipush (pc' := 29) (v := 99) kc_50_27 rfl rfl ?_
      refine xi_istore_n (pc' := 30) (lv' := [(3, .int 99), (2, .int 0), (0, .ref 115), (1, .int x1)]) kc_50_29 rfl rfl (xm_lt ml_50 rfl) ?_
      refine xi_iconst (pc' := 31) (v := 0) kc_50_30 rfl rfl ?_
      refine xi_istore (pc' := 33) (lv' := [(4, .int 0), (3, .int 99), (2, .int 0), (0, .ref 115), (1, .int x1)]) kc_50_31 rfl rfl (xm_lt ml_50 rfl) ?_
      have zc0 : (0 : Int32).toInt = 0 := by decide
      have zc99 : (99 : Int32).toInt = 99 := by decide
      refine xw_lv (b := [(0, .ref 115), (1, .int x1), (2, .int 0), (3, .int 99), (4, .int 0)]) (lvS_cons (lvS_cons (lvS_cons (lvS_cons (lvS_cons (lvS_nil (show ([4, 3, 2, 0, 1] : List Nat).Nodup by decide)) rfl) rfl) rfl) rfl) rfl) ?_
      exact (lp_50_0 hJ hov1 hov2 (d := d) (hb := hh31) (fun r9 h9 K9 => kk r9 h9 (xk_tr K33 K9 rfl)) 65) x1 0 99 0 hh31 (by omega) (by omega) (xk_re K33.1) (by omega)
set_option maxHeartbeats 4000000 in
theorem lp_53_0 {J : xe_J} {ov : List (List Int32)} (hJ : ∀ d mj as h, mj ≠ xe_loff → J d mj as h = none) (hov1 : ov[1]? = some [10, 0, 0, 0, 0, 0]) (hov2 : ov[2]? = some [99, 30, 50, 50, 1, 99999]) {d : Nat} {Q : Option Value → xe_H → Prop} {hb : xe_H} (kk : (∀ (r : Int32) (h' : xe_H), (0 ≤ r.toInt ∧ r.toInt ≤ 1) → xk [(0, 9), (115, 1), (83, 0), (6, 0), (123, 0), (9, 0), (124, 0), (7, 0), (10, 0), (5, 0), (8, 0)] hb h' → Q (some (.int r)) h')) : ∀ m : Nat, (∀ (x1 : Int32) (x2 : Int32) (x3 : Int32) (h : xe_H), (0 ≤ x1.toInt ∧ x1.toInt ≤ 63) → (0 ≤ x2.toInt ∧ x2.toInt ≤ 1) → (0 ≤ x3.toInt ∧ x3.toInt ≤ 8) → xk [(0, 9), (115, 1), (83, 0), (6, 0), (123, 0), (9, 0), (124, 0), (7, 0), (10, 0), (5, 0), (8, 0)] hb h → (-1) * x3.toInt + 8 < (m : Int) → xw J ov (d + 1) 53 (19, [(0, .ref 115), (1, .int x1), (2, .int x2), (3, .int x3)], [], h) Q) := by
  intro m
  induction m with
  | zero =>
    intro x1 x2 x3 h b1 b2 b3 K hm; exfalso; omega
  | succ m ih =>
    have i0 := ih
    intro x1 x2 x3 h b1 b2 b3 K hm
    refine xi_iload_n (pc' := 20) (x := x3) kc_53_19 rfl rfl ?_
    refine xi_aload_n (pc' := 21) (x := 115) kc_53_20 rfl rfl ?_
    obtain ⟨u1, u2, u3, u4, u5, u6, u7, u8, u9, u10, u11, u12, u13, bu1, bu2, bu3, bu4, bu5, bu6, bu7, bu8, bu9, bu10, bu11, bu12, bu13, A14⟩ := xq_115 K.1
    refine xi_getfield (pc' := 24) (v := .int u10) kc_53_21 rfl rfl rfl A14 rfl ?_
    by_cases c15 : u10.toInt ≤ x3.toInt
    · refine xi_cmt (pc' := 67) kc_53_24 rfl (xc_ge_t (X := x3.toInt) (Y := u10.toInt) rfl rfl (by omega)) ?_
      refine xi_iload_n (pc' := 68) (x := x2) kc_53_67 rfl rfl ?_
      by_cases c16 : x2.toInt = 0
      · have qx2 : x2 = 0 := xc_of (Eq.trans (by omega) (show (0 : Int) = (0 : Int32).toInt by decide))
        subst qx2
        refine xi_ireturn kc_53_68 mr_53 rfl ?_
        have zc0 : (0 : Int32).toInt = 0 := by decide
        exact kk 0 h (by omega) K
      have qx2 : x2 = 1 := xc_of (Eq.trans (by omega) (show (1 : Int) = (1 : Int32).toInt by decide))
      subst qx2
      refine xi_ireturn kc_53_68 mr_53 rfl ?_
      have zc1 : (1 : Int32).toInt = 1 := by decide
      exact kk 1 h (by omega) K
    · refine xi_cmf (pc' := 27) kc_53_24 rfl (xc_ge_f (X := x3.toInt) (Y := u10.toInt) rfl rfl (by omega)) ?_
      refine xi_iload_n (pc' := 28) (x := x2) kc_53_27 rfl rfl ?_
      by_cases c17 : x2.toInt = 0
      · refine xi_ift (pc' := 59) kc_53_28 rfl (xc_eq_t (X := x2.toInt) (Y := 0) rfl (by decide) (by omega)) ?_
        refine xi_iconst (pc' := 60) (v := 0) kc_53_59 rfl rfl ?_
        refine xi_istore_n (pc' := 61) (lv' := [(2, .int 0), (0, .ref 115), (1, .int x1), (3, .int x3)]) kc_53_60 rfl rfl (xm_lt ml_53 rfl) ?_
        obtain ⟨v18, ev18⟩ : ∃ q : Int32, x3 + 1 = q := ⟨_, rfl⟩
        have zv18 : v18.toInt = (x3.toInt + 1) := by rw [← ev18]; exact (xz_add (X := x3.toInt) (Y := 1) rfl (by decide) (by omega) (by omega)).trans (by omega)
        refine xi_iinc (pc' := 64) (x := x3) (v := v18) (lv' := [(3, .int v18), (2, .int 0), (0, .ref 115), (1, .int x1)]) kc_53_61 rfl rfl ev18 rfl (xm_lt ml_53 rfl) ?_
        refine xi_goto (pc' := 19) kc_53_64 rfl ?_
        have zc0 : (0 : Int32).toInt = 0 := by decide
        refine xw_lv (b := [(0, .ref 115), (1, .int x1), (2, .int 0), (3, .int v18)]) (lvS_cons (lvS_cons (lvS_cons (lvS_cons (lvS_nil (show ([3, 2, 0, 1] : List Nat).Nodup by decide)) rfl) rfl) rfl) rfl) ?_
        exact i0 x1 0 v18 h (by omega) (by omega) (by omega) K (by omega)
      · refine xi_iff (pc' := 31) kc_53_28 rfl (xc_eq_f (X := x2.toInt) (Y := 0) rfl (by decide) (by omega)) ?_
        refine xi_aload_n (pc' := 32) (x := 115) kc_53_31 rfl rfl ?_
        refine xi_getfield (pc' := 35) (v := .ref 154) kc_53_32 rfl rfl rfl A14 rfl ?_
        refine xi_iload_n (pc' := 36) (x := x3) kc_53_35 rfl rfl ?_
        obtain ⟨y19, A19, hy19, ry19⟩ := xk_arr K.1 xD_154
        obtain ⟨v20, ev20, bv20, dv20⟩ := xj_get hy19 ry19 (i := x3) (by omega) (by omega)
        refine xi_iaload (pc' := 37) (v := v20) kc_53_36 rfl A19 (by decide) rfl (xi_in (by omega) (by rw [hy19]; omega)) ev20 ?_
        by_cases c21 : v20.toInt = 0
        · refine xi_ift (pc' := 55) kc_53_37 rfl (xc_eq_t (X := v20.toInt) (Y := 0) rfl (by decide) (by omega)) ?_
          refine xi_iconst (pc' := 56) (v := 1) kc_53_55 rfl rfl ?_
          refine xi_goto (pc' := 60) kc_53_56 rfl ?_
          refine xi_istore_n (pc' := 61) (lv' := [(2, .int 1), (0, .ref 115), (1, .int x1), (3, .int x3)]) kc_53_60 rfl rfl (xm_lt ml_53 rfl) ?_
          obtain ⟨v22, ev22⟩ : ∃ q : Int32, x3 + 1 = q := ⟨_, rfl⟩
          have zv22 : v22.toInt = (x3.toInt + 1) := by rw [← ev22]; exact (xz_add (X := x3.toInt) (Y := 1) rfl (by decide) (by omega) (by omega)).trans (by omega)
          refine xi_iinc (pc' := 64) (x := x3) (v := v22) (lv' := [(3, .int v22), (2, .int 1), (0, .ref 115), (1, .int x1)]) kc_53_61 rfl rfl ev22 rfl (xm_lt ml_53 rfl) ?_
          refine xi_goto (pc' := 19) kc_53_64 rfl ?_
          have zc1 : (1 : Int32).toInt = 1 := by decide
          refine xw_lv (b := [(0, .ref 115), (1, .int x1), (2, .int 1), (3, .int v22)]) (lvS_cons (lvS_cons (lvS_cons (lvS_cons (lvS_nil (show ([3, 2, 0, 1] : List Nat).Nodup by decide)) rfl) rfl) rfl) rfl) ?_
          exact i0 x1 1 v22 h (by omega) (by omega) (by omega) K (by omega)
        · refine xi_iff (pc' := 40) kc_53_37 rfl (xc_eq_f (X := v20.toInt) (Y := 0) rfl (by decide) (by omega)) ?_
          refine xi_aload_n (pc' := 41) (x := 115) kc_53_40 rfl rfl ?_
          refine xi_getfield (pc' := 44) (v := .ref 154) kc_53_41 rfl rfl rfl A14 rfl ?_
          refine xi_iload_n (pc' := 45) (x := x3) kc_53_44 rfl rfl ?_
          refine xi_iaload (pc' := 46) (v := v20) kc_53_45 rfl A19 (by decide) rfl (xi_in (by omega) (by rw [hy19]; omega)) ev20 ?_
          refine xi_aload_n (pc' := 47) (x := 115) kc_53_46 rfl rfl ?_
          refine xi_iload_n (pc' := 48) (x := x3) kc_53_47 rfl rfl ?_
          refine xi_iload_n (pc' := 49) (x := x1) kc_53_48 rfl rfl ?_
          refine xi_virtual (mj := 54) (as := [.int x3, .int x1]) (st1 := [.int v20]) (lv0 := [(0, .ref 115), (1, .int x3), (2, .int x1)]) kc_53_49 rfl rfl rfl rfl rfl A14 (Nat.le_of_ble_eq_true rfl) (hJ _ _ _ _ (by decide)) (xm_le ml_54 rfl) rfl ?_
          refine xi_aload_n (pc' := 1) (x := 115) kc_54_0 rfl rfl ?_
          refine xi_getfield (pc' := 4) (v := .ref 152) kc_54_1 rfl rfl rfl A14 rfl ?_
          refine xi_iload_n (pc' := 5) (x := x3) kc_54_4 rfl rfl ?_
          obtain ⟨y23, A23, hy23, ry23⟩ := xk_arr K.1 xD_152
          obtain ⟨v24, ev24, bv24, dv24⟩ := xj_get hy23 ry23 (i := x3) (by omega) (by omega)
          refine xi_iaload (pc' := 6) (v := v24) kc_54_5 rfl A23 (by decide) rfl (xi_in (by omega) (by rw [hy23]; omega)) ev24 ?_
          refine xi_iload_n (pc' := 7) (x := x1) kc_54_6 rfl rfl ?_
          obtain ⟨v25, ev25⟩ : ∃ q : Int32, (v24 : Int32) &&& x1 = q := ⟨_, rfl⟩
          have rv25 := xc_rng v25
          refine xi_iand (pc' := 8) (v := v25) kc_54_7 rfl ev25 ?_
          by_cases c26 : v25.toInt = 0
          · refine xi_ift (pc' := 15) kc_54_8 rfl (xc_eq_t (X := v25.toInt) (Y := 0) rfl (by decide) (by omega)) ?_
            refine xi_iconst (pc' := 16) (v := 2) kc_54_15 rfl rfl ?_
            refine xi_ireturn kc_54_16 mr_54 rfl ?_
            show xw J ov (d + 1) 53 (52, [(0, .ref 115), (1, .int x1), (2, .int x2), (3, .int x3)], [.int 2, .int v20], h) _
            by_cases c27 : v20.toInt = 2
            · refine xi_cmf (pc' := 55) kc_53_52 rfl (xc_ne_f (X := v20.toInt) (Y := 2) rfl (by decide) (by omega)) ?_
              refine xi_iconst (pc' := 56) (v := 1) kc_53_55 rfl rfl ?_
              refine xi_goto (pc' := 60) kc_53_56 rfl ?_
              refine xi_istore_n (pc' := 61) (lv' := [(2, .int 1), (0, .ref 115), (1, .int x1), (3, .int x3)]) kc_53_60 rfl rfl (xm_lt ml_53 rfl) ?_
              obtain ⟨v28, ev28⟩ : ∃ q : Int32, x3 + 1 = q := ⟨_, rfl⟩
              have zv28 : v28.toInt = (x3.toInt + 1) := by rw [← ev28]; exact (xz_add (X := x3.toInt) (Y := 1) rfl (by decide) (by omega) (by omega)).trans (by omega)
              refine xi_iinc (pc' := 64) (x := x3) (v := v28) (lv' := [(3, .int v28), (2, .int 1), (0, .ref 115), (1, .int x1)]) kc_53_61 rfl rfl ev28 rfl (xm_lt ml_53 rfl) ?_
              refine xi_goto (pc' := 19) kc_53_64 rfl ?_
              have zc1 : (1 : Int32).toInt = 1 := by decide
              refine xw_lv (b := [(0, .ref 115), (1, .int x1), (2, .int 1), (3, .int v28)]) (lvS_cons (lvS_cons (lvS_cons (lvS_cons (lvS_nil (show ([3, 2, 0, 1] : List Nat).Nodup by decide)) rfl) rfl) rfl) rfl) ?_
              exact i0 x1 1 v28 h (by omega) (by omega) (by omega) K (by omega)
            · refine xi_cmt (pc' := 59) kc_53_52 rfl (xc_ne_t (X := v20.toInt) (Y := 2) rfl (by decide) (by omega)) ?_
              refine xi_iconst (pc' := 60) (v := 0) kc_53_59 rfl rfl ?_
              refine xi_istore_n (pc' := 61) (lv' := [(2, .int 0), (0, .ref 115), (1, .int x1), (3, .int x3)]) kc_53_60 rfl rfl (xm_lt ml_53 rfl) ?_
              obtain ⟨v29, ev29⟩ : ∃ q : Int32, x3 + 1 = q := ⟨_, rfl⟩
              have zv29 : v29.toInt = (x3.toInt + 1) := by rw [← ev29]; exact (xz_add (X := x3.toInt) (Y := 1) rfl (by decide) (by omega) (by omega)).trans (by omega)
              refine xi_iinc (pc' := 64) (x := x3) (v := v29) (lv' := [(3, .int v29), (2, .int 0), (0, .ref 115), (1, .int x1)]) kc_53_61 rfl rfl ev29 rfl (xm_lt ml_53 rfl) ?_
              refine xi_goto (pc' := 19) kc_53_64 rfl ?_
              have zc0 : (0 : Int32).toInt = 0 := by decide
              refine xw_lv (b := [(0, .ref 115), (1, .int x1), (2, .int 0), (3, .int v29)]) (lvS_cons (lvS_cons (lvS_cons (lvS_cons (lvS_nil (show ([3, 2, 0, 1] : List Nat).Nodup by decide)) rfl) rfl) rfl) rfl) ?_
              exact i0 x1 0 v29 h (by omega) (by omega) (by omega) K (by omega)
          · refine xi_iff (pc' := 11) kc_54_8 rfl (xc_eq_f (X := v25.toInt) (Y := 0) rfl (by decide) (by omega)) ?_
            refine xi_iconst (pc' := 12) (v := 1) kc_54_11 rfl rfl ?_
            refine xi_goto (pc' := 16) kc_54_12 rfl ?_
            refine xi_ireturn kc_54_16 mr_54 rfl ?_
            show xw J ov (d + 1) 53 (52, [(0, .ref 115), (1, .int x1), (2, .int x2), (3, .int x3)], [.int 1, .int v20], h) _
            by_cases c30 : v20.toInt = 1
            · refine xi_cmf (pc' := 55) kc_53_52 rfl (xc_ne_f (X := v20.toInt) (Y := 1) rfl (by decide) (by omega)) ?_
              refine xi_iconst (pc' := 56) (v := 1) kc_53_55 rfl rfl ?_
              refine xi_goto (pc' := 60) kc_53_56 rfl ?_
              refine xi_istore_n (pc' := 61) (lv' := [(2, .int 1), (0, .ref 115), (1, .int x1), (3, .int x3)]) kc_53_60 rfl rfl (xm_lt ml_53 rfl) ?_
              obtain ⟨v31, ev31⟩ : ∃ q : Int32, x3 + 1 = q := ⟨_, rfl⟩
              have zv31 : v31.toInt = (x3.toInt + 1) := by rw [← ev31]; exact (xz_add (X := x3.toInt) (Y := 1) rfl (by decide) (by omega) (by omega)).trans (by omega)
              refine xi_iinc (pc' := 64) (x := x3) (v := v31) (lv' := [(3, .int v31), (2, .int 1), (0, .ref 115), (1, .int x1)]) kc_53_61 rfl rfl ev31 rfl (xm_lt ml_53 rfl) ?_
              refine xi_goto (pc' := 19) kc_53_64 rfl ?_
              have zc1 : (1 : Int32).toInt = 1 := by decide
              refine xw_lv (b := [(0, .ref 115), (1, .int x1), (2, .int 1), (3, .int v31)]) (lvS_cons (lvS_cons (lvS_cons (lvS_cons (lvS_nil (show ([3, 2, 0, 1] : List Nat).Nodup by decide)) rfl) rfl) rfl) rfl) ?_
              exact i0 x1 1 v31 h (by omega) (by omega) (by omega) K (by omega)
            · refine xi_cmt (pc' := 59) kc_53_52 rfl (xc_ne_t (X := v20.toInt) (Y := 1) rfl (by decide) (by omega)) ?_
              refine xi_iconst (pc' := 60) (v := 0) kc_53_59 rfl rfl ?_
              refine xi_istore_n (pc' := 61) (lv' := [(2, .int 0), (0, .ref 115), (1, .int x1), (3, .int x3)]) kc_53_60 rfl rfl (xm_lt ml_53 rfl) ?_
              obtain ⟨v32, ev32⟩ : ∃ q : Int32, x3 + 1 = q := ⟨_, rfl⟩
              have zv32 : v32.toInt = (x3.toInt + 1) := by rw [← ev32]; exact (xz_add (X := x3.toInt) (Y := 1) rfl (by decide) (by omega) (by omega)).trans (by omega)
              refine xi_iinc (pc' := 64) (x := x3) (v := v32) (lv' := [(3, .int v32), (2, .int 0), (0, .ref 115), (1, .int x1)]) kc_53_61 rfl rfl ev32 rfl (xm_lt ml_53 rfl) ?_
              refine xi_goto (pc' := 19) kc_53_64 rfl ?_
              have zc0 : (0 : Int32).toInt = 0 := by decide
              refine xw_lv (b := [(0, .ref 115), (1, .int x1), (2, .int 0), (3, .int v32)]) (lvS_cons (lvS_cons (lvS_cons (lvS_cons (lvS_nil (show ([3, 2, 0, 1] : List Nat).Nodup by decide)) rfl) rfl) rfl) rfl) ?_
              exact i0 x1 0 v32 h (by omega) (by omega) (by omega) K (by omega)
set_option maxHeartbeats 4000000 in
theorem mt_53_0 {J : xe_J} {ov : List (List Int32)} (hJ : ∀ d mj as h, mj ≠ xe_loff → J d mj as h = none) (hov1 : ov[1]? = some [10, 0, 0, 0, 0, 0]) (hov2 : ov[2]? = some [99, 30, 50, 50, 1, 99999]) {d : Nat} {Q : Option Value → xe_H → Prop} {h : xe_H} {x1 : Int32} (T : xt h) (b1 : (0 ≤ x1.toInt ∧ x1.toInt ≤ 63)) (kk : (∀ (r : Int32) (h' : xe_H), (0 ≤ r.toInt ∧ r.toInt ≤ 1) → xk [(0, 9), (115, 1), (83, 0), (6, 0), (123, 0), (9, 0), (124, 0), (7, 0), (10, 0), (5, 0), (8, 0)] h h' → Q (some (.int r)) h')) : xw J ov (d + 1) 53 (0, [(0, .ref 115), (1, .int x1)], [], h) Q := by
  have K : xk [(0, 9), (115, 1), (83, 0), (6, 0), (123, 0), (9, 0), (124, 0), (7, 0), (10, 0), (5, 0), (8, 0)] h h := xk_re T
  refine xi_aload_n (pc' := 1) (x := 115) kc_53_0 rfl rfl ?_
  obtain ⟨u1, u2, u3, u4, u5, u6, u7, u8, u9, u10, u11, u12, u13, bu1, bu2, bu3, bu4, bu5, bu6, bu7, bu8, bu9, bu10, bu11, bu12, bu13, A14⟩ := xq_115 K.1
  refine xi_getfield (pc' := 4) (v := .ref 149) kc_53_1 rfl rfl rfl A14 rfl ?_
  refine xi_iload_n (pc' := 5) (x := x1) kc_53_4 rfl rfl ?_
  obtain ⟨y15, A15, hy15⟩ := xk_larr K.1 xD_149
  obtain ⟨v16, ev16⟩ : ∃ q : Int64, y15.getD (Int32.toNatClampNeg x1) 0 = q := ⟨_, rfl⟩
  refine xi_laload (pc' := 6) (v := v16) kc_53_5 rfl A15 rfl (xi_in (by omega) (by rw [hy15]; omega)) ev16 ?_
  refine xi_lconst (pc' := 7) (v := 0) kc_53_6 rfl rfl ?_
  obtain ⟨v17, ev17⟩ : ∃ q : Int32, lg_cmp v16 0 = q := ⟨_, rfl⟩
  have rv17 := xc_rng v17
  refine xi_lcmp (pc' := 8) (v := v17) kc_53_7 rfl ev17 ?_
  by_cases c18 : v17.toInt = 0
  · refine xi_iff (pc' := 11) kc_53_8 rfl (xc_ne_f (X := v17.toInt) (Y := 0) rfl (by decide) (by omega)) ?_
    refine xi_iconst (pc' := 12) (v := 1) kc_53_11 rfl rfl ?_
    refine xi_goto (pc' := 16) kc_53_12 rfl ?_
    refine xi_istore_n (pc' := 17) (lv' := [(2, .int 1), (0, .ref 115), (1, .int x1)]) kc_53_16 rfl rfl (xm_lt ml_53 rfl) ?_
    refine xi_iconst (pc' := 18) (v := 0) kc_53_17 rfl rfl ?_
    refine xi_istore_n (pc' := 19) (lv' := [(3, .int 0), (2, .int 1), (0, .ref 115), (1, .int x1)]) kc_53_18 rfl rfl (xm_lt ml_53 rfl) ?_
    have zc0 : (0 : Int32).toInt = 0 := by decide
    have zc1 : (1 : Int32).toInt = 1 := by decide
    refine xw_lv (b := [(0, .ref 115), (1, .int x1), (2, .int 1), (3, .int 0)]) (lvS_cons (lvS_cons (lvS_cons (lvS_cons (lvS_nil (show ([3, 2, 0, 1] : List Nat).Nodup by decide)) rfl) rfl) rfl) rfl) ?_
    exact (lp_53_0 hJ hov1 hov2 (d := d) (hb := h) (fun r9 h9 b9 K9 => kk r9 h9 b9 (xk_tr K K9 rfl)) 9) x1 1 0 h (by omega) (by omega) (by omega) (xk_re K.1) (by omega)
  · have zv16c18 : v16 ≠ 0 := xj_lc ev17 (by omega)
    refine xi_ift (pc' := 15) kc_53_8 rfl (xc_ne_t (X := v17.toInt) (Y := 0) rfl (by decide) (by omega)) ?_
    refine xi_iconst (pc' := 16) (v := 0) kc_53_15 rfl rfl ?_
    refine xi_istore_n (pc' := 17) (lv' := [(2, .int 0), (0, .ref 115), (1, .int x1)]) kc_53_16 rfl rfl (xm_lt ml_53 rfl) ?_
    refine xi_iconst (pc' := 18) (v := 0) kc_53_17 rfl rfl ?_
    refine xi_istore_n (pc' := 19) (lv' := [(3, .int 0), (2, .int 0), (0, .ref 115), (1, .int x1)]) kc_53_18 rfl rfl (xm_lt ml_53 rfl) ?_
    have zc0 : (0 : Int32).toInt = 0 := by decide
    refine xw_lv (b := [(0, .ref 115), (1, .int x1), (2, .int 0), (3, .int 0)]) (lvS_cons (lvS_cons (lvS_cons (lvS_cons (lvS_nil (show ([3, 2, 0, 1] : List Nat).Nodup by decide)) rfl) rfl) rfl) rfl) ?_
    exact (lp_53_0 hJ hov1 hov2 (d := d) (hb := h) (fun r9 h9 b9 K9 => kk r9 h9 b9 (xk_tr K K9 rfl)) 9) x1 0 0 h (by omega) (by omega) (by omega) (xk_re K.1) (by omega)
set_option maxHeartbeats 4000000 in
theorem lp_52_0 {J : xe_J} {ov : List (List Int32)} (hJ : ∀ d mj as h, mj ≠ xe_loff → J d mj as h = none) (hov1 : ov[1]? = some [10, 0, 0, 0, 0, 0]) (hov2 : ov[2]? = some [99, 30, 50, 50, 1, 99999]) {d : Nat} {Q : Option Value → xe_H → Prop} {hb : xe_H} (kk : (∀ (r : Int32) (h' : xe_H), xk [(0, 9), (115, 1), (83, 0), (6, 0), (123, 0), (9, 0), (124, 0), (7, 0), (10, 0), (5, 0), (8, 0)] hb h' → Q (some (.int r)) h')) : ∀ m : Nat, (∀ (x1 : Int32) (x2 : Int32) (h : xe_H), (0 ≤ x2.toInt ∧ x2.toInt ≤ 64) → xk [(0, 9), (115, 1), (83, 0), (6, 0), (123, 0), (9, 0), (124, 0), (7, 0), (10, 0), (5, 0), (8, 0)] hb h → (-1) * x2.toInt + 64 < (m : Int) → xw J ov (d + 7) 52 (8, [(0, .ref 115), (1, .int x1), (2, .int x2)], [], h) Q) := by
  intro m
  induction m with
  | zero =>
    intro x1 x2 h b2 K hm; have rx1 := xc_rng x1; exfalso; omega
  | succ m ih =>
    have i0 := ih
    intro x1 x2 h b2 K hm
    have rx1 := xc_rng x1
    refine xi_iload_n (pc' := 9) (x := x2) kc_52_8 rfl rfl ?_
    refine xi_aload_n (pc' := 10) (x := 115) kc_52_9 rfl rfl ?_
    obtain ⟨u1, u2, u3, u4, u5, u6, u7, u8, u9, u10, u11, u12, u13, bu1, bu2, bu3, bu4, bu5, bu6, bu7, bu8, bu9, bu10, bu11, bu12, bu13, A14⟩ := xq_115 K.1
    refine xi_virtual (mj := 42) (as := []) (st1 := [.int x2]) (lv0 := [(0, .ref 115)]) kc_52_10 rfl rfl rfl rfl rfl A14 (Nat.le_of_ble_eq_true rfl) (hJ _ _ _ _ (by decide)) (xm_le ml_42 rfl) rfl ?_
    refine xi_iconst (pc' := 1) (v := 1) kc_42_0 rfl rfl ?_
    refine xi_aload_n (pc' := 2) (x := 115) kc_42_1 rfl rfl ?_
    refine xi_getfield (pc' := 5) (v := .int u5) kc_42_2 rfl rfl rfl A14 rfl ?_
    refine xi_bipush (pc' := 7) (v := 6) kc_42_5 rfl rfl ?_
    by_cases c15 : 6 ≤ u5.toInt
    · refine xi_cmt (pc' := 17) kc_42_7 rfl (xc_ge_t (X := u5.toInt) (Y := 6) rfl (by decide) (by omega)) ?_
      refine xi_bipush (pc' := 19) (v := 6) kc_42_17 rfl rfl ?_
      refine xi_ishl (pc' := 20) (v := 64) kc_42_19 rfl rfl ?_
      refine xi_ireturn kc_42_20 mr_42 rfl ?_
      show xw J ov (d + 7) 52 (13, [(0, .ref 115), (1, .int x1), (2, .int x2)], [.int 64, .int x2], h) _
      by_cases c16 : 64 ≤ x2.toInt
      · refine xi_cmt (pc' := 38) kc_52_13 rfl (xc_ge_t (X := x2.toInt) (Y := 64) rfl (by decide) (by omega)) ?_
        refine xi_iload_n (pc' := 39) (x := x1) kc_52_38 rfl rfl ?_
        refine xi_ireturn kc_52_39 mr_52 rfl ?_
        exact kk x1 h K
      · refine xi_cmf (pc' := 16) kc_52_13 rfl (xc_ge_f (X := x2.toInt) (Y := 64) rfl (by decide) (by omega)) ?_
        refine xi_iload_n (pc' := 17) (x := x1) kc_52_16 rfl rfl ?_
        refine xi_aload_n (pc' := 18) (x := 115) kc_52_17 rfl rfl ?_
        refine xi_iload_n (pc' := 19) (x := x2) kc_52_18 rfl rfl ?_
        refine xi_virtual (mj := 53) (as := [.int x2]) (st1 := [.int x1]) (lv0 := [(0, .ref 115), (1, .int x2)]) kc_52_19 rfl rfl rfl rfl rfl A14 (Nat.le_of_ble_eq_true rfl) (hJ _ _ _ _ (by decide)) (xm_le ml_53 rfl) rfl ?_
        refine mt_53_0 hJ hov1 hov2 (d := d + 5) (x1 := x2) K.1 (by first | omega | decide) (fun r17 hh18 br17 K19 => ?_)
        have K20 := xk_tr K K19 rfl
        obtain ⟨u21, u22, u23, u24, u25, u26, u27, u28, u29, u30, u31, u32, u33, bu21, bu22, bu23, bu24, bu25, bu26, bu27, bu28, bu29, bu30, bu31, bu32, bu33, A34⟩ := xq_115 K20.1
        have e35 : u2 = u22 := xk_eqi (q := 1) K19 rfl A14 A34 rfl rfl
        subst e35
        show xw J ov (d + 7) 52 (22, [(0, .ref 115), (1, .int x1), (2, .int x2)], [.int r17, .int x1], hh18) _
        by_cases c36 : r17.toInt = 0
        · refine xi_ift (pc' := 29) kc_52_22 rfl (xc_eq_t (X := r17.toInt) (Y := 0) rfl (by decide) (by omega)) ?_
          refine xi_iconst (pc' := 30) (v := 0) kc_52_29 rfl rfl ?_
          obtain ⟨v37, ev37⟩ : ∃ q : Int32, x1 + 0 = q := ⟨_, rfl⟩
          have zv37 : v37.toInt = x1.toInt := by rw [← ev37]; exact (xz_add (X := x1.toInt) (Y := 0) rfl (by decide) (by omega) (by omega)).trans (by omega)
          refine xi_iadd (pc' := 31) (v := v37) kc_52_30 rfl ev37 ?_
          refine xi_istore_n (pc' := 32) (lv' := [(1, .int v37), (0, .ref 115), (2, .int x2)]) kc_52_31 rfl rfl (xm_lt ml_52 rfl) ?_
          obtain ⟨v38, ev38⟩ : ∃ q : Int32, x2 + 1 = q := ⟨_, rfl⟩
          have zv38 : v38.toInt = (x2.toInt + 1) := by rw [← ev38]; exact (xz_add (X := x2.toInt) (Y := 1) rfl (by decide) (by omega) (by omega)).trans (by omega)
          refine xi_iinc (pc' := 35) (x := x2) (v := v38) (lv' := [(2, .int v38), (1, .int v37), (0, .ref 115)]) kc_52_32 rfl rfl ev38 rfl (xm_lt ml_52 rfl) ?_
          refine xi_goto (pc' := 8) kc_52_35 rfl ?_
          refine xw_lv (b := [(0, .ref 115), (1, .int v37), (2, .int v38)]) (lvS_cons (lvS_cons (lvS_cons (lvS_nil (show ([2, 1, 0] : List Nat).Nodup by decide)) rfl) rfl) rfl) ?_
          exact i0 v37 v38 hh18 (by omega) K20 (by omega)
        · refine xi_iff (pc' := 25) kc_52_22 rfl (xc_eq_f (X := r17.toInt) (Y := 0) rfl (by decide) (by omega)) ?_
          refine xi_iconst (pc' := 26) (v := 1) kc_52_25 rfl rfl ?_
          refine xi_goto (pc' := 30) kc_52_26 rfl ?_
          obtain ⟨v39, ev39⟩ : ∃ q : Int32, (x1 : Int32) + 1 = q := ⟨_, rfl⟩
          have rv39 := xc_rng v39
          refine xi_iadd (pc' := 31) (v := v39) kc_52_30 rfl ev39 ?_
          refine xi_istore_n (pc' := 32) (lv' := [(1, .int v39), (0, .ref 115), (2, .int x2)]) kc_52_31 rfl rfl (xm_lt ml_52 rfl) ?_
          obtain ⟨v40, ev40⟩ : ∃ q : Int32, x2 + 1 = q := ⟨_, rfl⟩
          have zv40 : v40.toInt = (x2.toInt + 1) := by rw [← ev40]; exact (xz_add (X := x2.toInt) (Y := 1) rfl (by decide) (by omega) (by omega)).trans (by omega)
          refine xi_iinc (pc' := 35) (x := x2) (v := v40) (lv' := [(2, .int v40), (1, .int v39), (0, .ref 115)]) kc_52_32 rfl rfl ev40 rfl (xm_lt ml_52 rfl) ?_
          refine xi_goto (pc' := 8) kc_52_35 rfl ?_
          refine xw_lv (b := [(0, .ref 115), (1, .int v39), (2, .int v40)]) (lvS_cons (lvS_cons (lvS_cons (lvS_nil (show ([2, 1, 0] : List Nat).Nodup by decide)) rfl) rfl) rfl) ?_
          exact i0 v39 v40 hh18 (by omega) K20 (by omega)
    · refine xi_cmf (pc' := 10) kc_42_7 rfl (xc_ge_f (X := u5.toInt) (Y := 6) rfl (by decide) (by omega)) ?_
      refine xi_aload_n (pc' := 11) (x := 115) kc_42_10 rfl rfl ?_
      refine xi_getfield (pc' := 14) (v := .int u5) kc_42_11 rfl rfl rfl A14 rfl ?_
      refine xi_goto (pc' := 19) kc_42_14 rfl ?_
      obtain ⟨v41, ev41⟩ : ∃ q : Int32, (1 : Int32) <<< (u5 &&& 31) = q := ⟨_, rfl⟩
      have rv41 := xc_rng v41
      have bv41 : 1 ≤ v41.toInt ∧ v41.toInt ≤ 64 := by rw [← ev41]; exact xj_shl6 (by omega) (by omega)
      refine xi_ishl (pc' := 20) (v := v41) kc_42_19 rfl ev41 ?_
      refine xi_ireturn kc_42_20 mr_42 rfl ?_
      show xw J ov (d + 7) 52 (13, [(0, .ref 115), (1, .int x1), (2, .int x2)], [.int v41, .int x2], h) _
      by_cases c42 : v41.toInt ≤ x2.toInt
      · refine xi_cmt (pc' := 38) kc_52_13 rfl (xc_ge_t (X := x2.toInt) (Y := v41.toInt) rfl rfl (by omega)) ?_
        refine xi_iload_n (pc' := 39) (x := x1) kc_52_38 rfl rfl ?_
        refine xi_ireturn kc_52_39 mr_52 rfl ?_
        exact kk x1 h K
      · refine xi_cmf (pc' := 16) kc_52_13 rfl (xc_ge_f (X := x2.toInt) (Y := v41.toInt) rfl rfl (by omega)) ?_
        refine xi_iload_n (pc' := 17) (x := x1) kc_52_16 rfl rfl ?_
        refine xi_aload_n (pc' := 18) (x := 115) kc_52_17 rfl rfl ?_
        refine xi_iload_n (pc' := 19) (x := x2) kc_52_18 rfl rfl ?_
        refine xi_virtual (mj := 53) (as := [.int x2]) (st1 := [.int x1]) (lv0 := [(0, .ref 115), (1, .int x2)]) kc_52_19 rfl rfl rfl rfl rfl A14 (Nat.le_of_ble_eq_true rfl) (hJ _ _ _ _ (by decide)) (xm_le ml_53 rfl) rfl ?_
        refine mt_53_0 hJ hov1 hov2 (d := d + 5) (x1 := x2) K.1 (by first | omega | decide) (fun r43 hh44 br43 K45 => ?_)
        have K46 := xk_tr K K45 rfl
        obtain ⟨u47, u48, u49, u50, u51, u52, u53, u54, u55, u56, u57, u58, u59, bu47, bu48, bu49, bu50, bu51, bu52, bu53, bu54, bu55, bu56, bu57, bu58, bu59, A60⟩ := xq_115 K46.1
        have e61 : u2 = u48 := xk_eqi (q := 1) K45 rfl A14 A60 rfl rfl
        subst e61
        show xw J ov (d + 7) 52 (22, [(0, .ref 115), (1, .int x1), (2, .int x2)], [.int r43, .int x1], hh44) _
        by_cases c62 : r43.toInt = 0
        · refine xi_ift (pc' := 29) kc_52_22 rfl (xc_eq_t (X := r43.toInt) (Y := 0) rfl (by decide) (by omega)) ?_
          refine xi_iconst (pc' := 30) (v := 0) kc_52_29 rfl rfl ?_
          obtain ⟨v63, ev63⟩ : ∃ q : Int32, x1 + 0 = q := ⟨_, rfl⟩
          have zv63 : v63.toInt = x1.toInt := by rw [← ev63]; exact (xz_add (X := x1.toInt) (Y := 0) rfl (by decide) (by omega) (by omega)).trans (by omega)
          refine xi_iadd (pc' := 31) (v := v63) kc_52_30 rfl ev63 ?_
          refine xi_istore_n (pc' := 32) (lv' := [(1, .int v63), (0, .ref 115), (2, .int x2)]) kc_52_31 rfl rfl (xm_lt ml_52 rfl) ?_
          obtain ⟨v64, ev64⟩ : ∃ q : Int32, x2 + 1 = q := ⟨_, rfl⟩
          have zv64 : v64.toInt = (x2.toInt + 1) := by rw [← ev64]; exact (xz_add (X := x2.toInt) (Y := 1) rfl (by decide) (by omega) (by omega)).trans (by omega)
          refine xi_iinc (pc' := 35) (x := x2) (v := v64) (lv' := [(2, .int v64), (1, .int v63), (0, .ref 115)]) kc_52_32 rfl rfl ev64 rfl (xm_lt ml_52 rfl) ?_
          refine xi_goto (pc' := 8) kc_52_35 rfl ?_
          refine xw_lv (b := [(0, .ref 115), (1, .int v63), (2, .int v64)]) (lvS_cons (lvS_cons (lvS_cons (lvS_nil (show ([2, 1, 0] : List Nat).Nodup by decide)) rfl) rfl) rfl) ?_
          exact i0 v63 v64 hh44 (by omega) K46 (by omega)
        · refine xi_iff (pc' := 25) kc_52_22 rfl (xc_eq_f (X := r43.toInt) (Y := 0) rfl (by decide) (by omega)) ?_
          refine xi_iconst (pc' := 26) (v := 1) kc_52_25 rfl rfl ?_
          refine xi_goto (pc' := 30) kc_52_26 rfl ?_
          obtain ⟨v65, ev65⟩ : ∃ q : Int32, (x1 : Int32) + 1 = q := ⟨_, rfl⟩
          have rv65 := xc_rng v65
          refine xi_iadd (pc' := 31) (v := v65) kc_52_30 rfl ev65 ?_
          refine xi_istore_n (pc' := 32) (lv' := [(1, .int v65), (0, .ref 115), (2, .int x2)]) kc_52_31 rfl rfl (xm_lt ml_52 rfl) ?_
          obtain ⟨v66, ev66⟩ : ∃ q : Int32, x2 + 1 = q := ⟨_, rfl⟩
          have zv66 : v66.toInt = (x2.toInt + 1) := by rw [← ev66]; exact (xz_add (X := x2.toInt) (Y := 1) rfl (by decide) (by omega) (by omega)).trans (by omega)
          refine xi_iinc (pc' := 35) (x := x2) (v := v66) (lv' := [(2, .int v66), (1, .int v65), (0, .ref 115)]) kc_52_32 rfl rfl ev66 rfl (xm_lt ml_52 rfl) ?_
          refine xi_goto (pc' := 8) kc_52_35 rfl ?_
          refine xw_lv (b := [(0, .ref 115), (1, .int v65), (2, .int v66)]) (lvS_cons (lvS_cons (lvS_cons (lvS_nil (show ([2, 1, 0] : List Nat).Nodup by decide)) rfl) rfl) rfl) ?_
          exact i0 v65 v66 hh44 (by omega) K46 (by omega)
set_option maxHeartbeats 4000000 in
theorem mt_52_0 {J : xe_J} {ov : List (List Int32)} (hJ : ∀ d mj as h, mj ≠ xe_loff → J d mj as h = none) (hov1 : ov[1]? = some [10, 0, 0, 0, 0, 0]) (hov2 : ov[2]? = some [99, 30, 50, 50, 1, 99999]) {d : Nat} {Q : Option Value → xe_H → Prop} {h : xe_H} (T : xt h) (kk : (∀ (r : Int32) (h' : xe_H), xk [(0, 9), (115, 1), (83, 0), (6, 0), (123, 0), (9, 0), (124, 0), (7, 0), (10, 0), (5, 0), (8, 0)] h h' → Q (some (.int r)) h')) : xw J ov (d + 7) 52 (0, [(0, .ref 115)], [], h) Q := by
  have K : xk [(0, 9), (115, 1), (83, 0), (6, 0), (123, 0), (9, 0), (124, 0), (7, 0), (10, 0), (5, 0), (8, 0)] h h := xk_re T
  refine xi_aload_n (pc' := 1) (x := 115) kc_52_0 rfl rfl ?_
  obtain ⟨u1, u2, u3, u4, u5, u6, u7, u8, u9, u10, u11, u12, u13, bu1, bu2, bu3, bu4, bu5, bu6, bu7, bu8, bu9, bu10, bu11, bu12, bu13, A14⟩ := xq_115 K.1
  refine xi_virtual (mj := 43) (as := []) (st1 := []) (lv0 := [(0, .ref 115)]) kc_52_1 rfl rfl rfl rfl rfl A14 (Nat.le_of_ble_eq_true rfl) (hJ _ _ _ _ (by decide)) (xm_le ml_43 rfl) rfl ?_
  refine mt_43_0 hJ hov1 hov2 (d := d)  K.1 (fun hh16 K17 => ?_)
  have K18 := xk_tr K K17 rfl
  obtain ⟨u19, u20, u21, u22, u23, u24, u25, u26, u27, u28, u29, u30, u31, bu19, bu20, bu21, bu22, bu23, bu24, bu25, bu26, bu27, bu28, bu29, bu30, bu31, A32⟩ := xq_115 K18.1
  have e33 : u2 = u20 := xk_eqi (q := 1) K17 rfl A14 A32 rfl rfl
  subst e33
  show xw J ov (d + 7) 52 (4, [(0, .ref 115)], [], hh16) _
  refine xi_iconst (pc' := 5) (v := 0) kc_52_4 rfl rfl ?_
  refine xi_istore_n (pc' := 6) (lv' := [(1, .int 0), (0, .ref 115)]) kc_52_5 rfl rfl (xm_lt ml_52 rfl) ?_
  refine xi_iconst (pc' := 7) (v := 0) kc_52_6 rfl rfl ?_
  refine xi_istore_n (pc' := 8) (lv' := [(2, .int 0), (1, .int 0), (0, .ref 115)]) kc_52_7 rfl rfl (xm_lt ml_52 rfl) ?_
  have zc0 : (0 : Int32).toInt = 0 := by decide
  refine xw_lv (b := [(0, .ref 115), (1, .int 0), (2, .int 0)]) (lvS_cons (lvS_cons (lvS_cons (lvS_nil (show ([2, 1, 0] : List Nat).Nodup by decide)) rfl) rfl) rfl) ?_
  exact (lp_52_0 hJ hov1 hov2 (d := d) (hb := hh16) (fun r9 h9 K9 => kk r9 h9 (xk_tr K18 K9 rfl)) 65) 0 0 hh16 (by omega) (xk_re K18.1) (by omega)
set_option maxHeartbeats 4000000 in
theorem mt_51_0 {J : xe_J} {ov : List (List Int32)} (hJ : ∀ d mj as h, mj ≠ xe_loff → J d mj as h = none) (hov1 : ov[1]? = some [10, 0, 0, 0, 0, 0]) (hov2 : ov[2]? = some [99, 30, 50, 50, 1, 99999]) {d : Nat} {Q : Option Value → xe_H → Prop} {h : xe_H} (T : xt h) (kk : (∀ (r : Int32) (h' : xe_H), xk [(0, 9), (115, 1), (83, 0), (6, 0), (123, 0), (9, 0), (124, 0), (7, 0), (10, 0), (5, 0), (8, 0)] h h' → Q (some (.int r)) h')) : xw J ov (d + 8) 51 (0, [(0, .ref 115)], [], h) Q := by
  have K : xk [(0, 9), (115, 1), (83, 0), (6, 0), (123, 0), (9, 0), (124, 0), (7, 0), (10, 0), (5, 0), (8, 0)] h h := xk_re T
  refine xi_aload_n (pc' := 1) (x := 115) kc_51_0 rfl rfl ?_
  refine xi_iconst (pc' := 2) (v := 0) kc_51_1 rfl rfl ?_
  obtain ⟨u1, u2, u3, u4, u5, u6, u7, u8, u9, u10, u11, u12, u13, bu1, bu2, bu3, bu4, bu5, bu6, bu7, bu8, bu9, bu10, bu11, bu12, bu13, A14⟩ := xq_115 K.1
  refine xi_putfield (pc' := 5) (fs' := [.int 0, .int u2, .ref 116, .ref 117, .ref 118, .ref 119, .ref 120, .ref 121, .ref 122, .ref 123, .ref 124, .ref 125, .ref 126, .ref 127, .ref 128, .ref 129, .int u3, .ref 130, .int u4, .ref 131, .ref 132, .ref 133, .ref 134, .int u5, .ref 135, .ref 136, .ref 137, .ref 138, .ref 139, .ref 140, .ref 141, .ref 142, .int u6, .int u7, .int u8, .ref 143, .ref 144, .ref 145, .ref 146, .ref 147, .ref 148, .int u9, .ref 149, .ref 150, .ref 151, .int u10, .ref 152, .ref 153, .ref 154, .ref 155, .ref 156, .ref 157, .ref 158, .ref 159, .int u11, .ref 160, .int u12, .ref 161, .ref 162, .ref 163, .ref 164, .int u13, .ref 165, .ref 166]) kc_51_2 rfl rfl rfl A14 rfl rfl rfl (Nat.le_of_ble_eq_true rfl) rfl (fun hh16 eh15 => ?_)
  have K17 := xk_pf (k := 0) (v := 0) K (xk_wf rfl) xD_115 A14 rfl (by first | omega | decide) (by first | omega | decide) eh15 rfl
  refine xi_aload_n (pc' := 6) (x := 115) kc_51_5 rfl rfl ?_
  refine xi_virtual (mj := 52) (as := []) (st1 := []) (lv0 := [(0, .ref 115)]) kc_51_6 rfl rfl rfl rfl rfl eh15.1 (Nat.le_of_ble_eq_true rfl) (hJ _ _ _ _ (by decide)) (xm_le ml_52 rfl) rfl ?_
  refine mt_52_0 hJ hov1 hov2 (d := d)  K17.1 (fun r18 hh19 K20 => ?_)
  have br18 := xc_rng r18
  have K21 := xk_tr K17 K20 rfl
  obtain ⟨u22, u23, u24, u25, u26, u27, u28, u29, u30, u31, u32, u33, u34, bu22, bu23, bu24, bu25, bu26, bu27, bu28, bu29, bu30, bu31, bu32, bu33, bu34, A35⟩ := xq_115 K21.1
  have e36 : u2 = u23 := xk_eqi (q := 1) K20 rfl eh15.1 A35 rfl rfl
  subst e36
  show xw J ov (d + 8) 51 (9, [(0, .ref 115)], [.int r18], hh19) _
  refine xi_ireturn kc_51_9 mr_51 rfl ?_
  exact kk r18 hh19 K21
set_option maxHeartbeats 4000000 in
theorem mt_55_0 {J : xe_J} {ov : List (List Int32)} (hJ : ∀ d mj as h, mj ≠ xe_loff → J d mj as h = none) (hov1 : ov[1]? = some [10, 0, 0, 0, 0, 0]) (hov2 : ov[2]? = some [99, 30, 50, 50, 1, 99999]) {d : Nat} {Q : Option Value → xe_H → Prop} {h : xe_H} {x1 : Int32} {x2 : Int32} (T : xt h) (kk : (∀ (r : Int32) (h' : xe_H), ((-6) ≤ r.toInt ∧ r.toInt ≤ 7) → xk [(0, 9), (115, 1), (83, 0), (6, 0), (123, 0), (9, 0), (124, 0), (7, 0), (10, 0), (5, 0), (8, 0)] h h' → Q (some (.int r)) h')) : xw J ov (d + 1) 55 (0, [(0, .ref 115), (1, .int x1), (2, .int x2)], [], h) Q := by
  have K : xk [(0, 9), (115, 1), (83, 0), (6, 0), (123, 0), (9, 0), (124, 0), (7, 0), (10, 0), (5, 0), (8, 0)] h h := xk_re T
  have rx1 := xc_rng x1
  have rx2 := xc_rng x2
  refine xi_aload_n (pc' := 1) (x := 115) kc_55_0 rfl rfl ?_
  refine xi_iconst (pc' := 2) (v := 0) kc_55_1 rfl rfl ?_
  obtain ⟨u1, u2, u3, u4, u5, u6, u7, u8, u9, u10, u11, u12, u13, bu1, bu2, bu3, bu4, bu5, bu6, bu7, bu8, bu9, bu10, bu11, bu12, bu13, A14⟩ := xq_115 K.1
  refine xi_putfield (pc' := 5) (fs' := [.int 0, .int u2, .ref 116, .ref 117, .ref 118, .ref 119, .ref 120, .ref 121, .ref 122, .ref 123, .ref 124, .ref 125, .ref 126, .ref 127, .ref 128, .ref 129, .int u3, .ref 130, .int u4, .ref 131, .ref 132, .ref 133, .ref 134, .int u5, .ref 135, .ref 136, .ref 137, .ref 138, .ref 139, .ref 140, .ref 141, .ref 142, .int u6, .int u7, .int u8, .ref 143, .ref 144, .ref 145, .ref 146, .ref 147, .ref 148, .int u9, .ref 149, .ref 150, .ref 151, .int u10, .ref 152, .ref 153, .ref 154, .ref 155, .ref 156, .ref 157, .ref 158, .ref 159, .int u11, .ref 160, .int u12, .ref 161, .ref 162, .ref 163, .ref 164, .int u13, .ref 165, .ref 166]) kc_55_2 rfl rfl rfl A14 rfl rfl rfl (Nat.le_of_ble_eq_true rfl) rfl (fun hh16 eh15 => ?_)
  have K17 := xk_pf (k := 0) (v := 0) K (xk_wf rfl) xD_115 A14 rfl (by first | omega | decide) (by first | omega | decide) eh15 rfl
  refine xi_iload_n (pc' := 6) (x := x1) kc_55_5 rfl rfl ?_
  refine xi_iconst (pc' := 7) (v := 0) kc_55_6 rfl rfl ?_
  refine xi_bipush (pc' := 9) (v := 63) kc_55_7 rfl rfl ?_
  refine xi_static (mj := 11) (as := [.int x1, .int 0, .int 63]) (st1 := []) (lv0 := [(0, .int x1), (1, .int 0), (2, .int 63)]) kc_55_9 rfl rfl (Nat.le_of_ble_eq_true rfl) rfl rfl (Nat.le_of_ble_eq_true rfl) (hJ _ _ _ _ (by decide)) (xm_le ml_11 rfl) rfl ?_
  refine xi_iload_n (pc' := 1) (x := x1) kc_11_0 rfl rfl ?_
  refine xi_iload_n (pc' := 2) (x := 0) kc_11_1 rfl rfl ?_
  by_cases c18 : x1.toInt < 0
  · refine xi_cmt (pc' := 14) kc_11_2 rfl (xc_lt_t (X := x1.toInt) (Y := 0) rfl (by decide) (by omega)) ?_
    refine xi_iconst (pc' := 15) (v := 0) kc_11_14 rfl rfl ?_
    refine xi_ireturn kc_11_15 mr_11 rfl ?_
    show xw J ov (d + 1) 55 (12, [(0, .ref 115), (1, .int x1), (2, .int x2)], [.int 0], hh16) _
    refine xi_iff (pc' := 15) kc_55_12 rfl rfl ?_
    refine xi_aload_n (pc' := 16) (x := 115) kc_55_15 rfl rfl ?_
    refine xi_bipush (pc' := 18) (v := (-2)) kc_55_16 rfl rfl ?_
    refine xi_virtual (mj := 12) (as := [.int (-2)]) (st1 := []) (lv0 := [(0, .ref 115), (1, .int (-2))]) kc_55_18 rfl rfl rfl rfl rfl eh15.1 (Nat.le_of_ble_eq_true rfl) (hJ _ _ _ _ (by decide)) (xm_le ml_12 rfl) rfl ?_
    refine xi_aload_n (pc' := 1) (x := 115) kc_12_0 rfl rfl ?_
    refine xi_getfield (pc' := 4) (v := .ref 140) kc_12_1 rfl rfl rfl eh15.1 rfl ?_
    refine xi_iload_n (pc' := 5) (x := (-2)) kc_12_4 rfl rfl ?_
    refine xi_ineg (pc' := 6) (v := 2) kc_12_5 rfl rfl ?_
    refine xi_dup2 (pc' := 7) kc_12_6 rfl ⟨rfl, rfl⟩ ?_
    obtain ⟨y19, A19, hy19, ry19⟩ := xk_arr K17.1 xD_140
    obtain ⟨v20, ev20, bv20, dv20⟩ := xj_get hy19 ry19 (i := 2) (by decide) (by decide)
    refine xi_iaload (pc' := 8) (v := v20) kc_12_7 rfl A19 (by decide) rfl (xi_in (by decide) (by rw [hy19]; decide)) ev20 ?_
    refine xi_iconst (pc' := 9) (v := 1) kc_12_8 rfl rfl ?_
    obtain ⟨v21, ev21⟩ : ∃ q : Int32, (v20 : Int32) + 1 = q := ⟨_, rfl⟩
    have rv21 := xc_rng v21
    refine xi_iadd (pc' := 10) (v := v21) kc_12_9 rfl ev21 ?_
    obtain ⟨y22, s22, hy22, ry22⟩ := xj_set (v := v21) hy19 ry19 2 (by first | omega | decide) (by first | omega | decide)
    refine xi_iastore (pc' := 11) (x' := y22) kc_12_10 rfl A19 rfl (xi_in (by decide) (by rw [hy19]; decide)) s22 (fun hh22 eh22 => ?_)
    have K23 := xk_pa K17 (xk_wa rfl) xD_140 hy22 ry22 eh22
    refine xi_iload_n (pc' := 12) (x := (-2)) kc_12_11 rfl rfl ?_
    refine xi_ireturn kc_12_12 mr_12 rfl ?_
    show xw J ov (d + 1) 55 (21, [(0, .ref 115), (1, .int x1), (2, .int x2)], [.int (-2)], hh22) _
    refine xi_ireturn kc_55_21 mr_55 rfl ?_
    have zcm2 : ((-2) : Int32).toInt = (-2) := by decide
    exact kk (-2) hh22 (by omega) K23
  · refine xi_cmf (pc' := 5) kc_11_2 rfl (xc_lt_f (X := x1.toInt) (Y := 0) rfl (by decide) (by omega)) ?_
    refine xi_iload_n (pc' := 6) (x := x1) kc_11_5 rfl rfl ?_
    refine xi_iload_n (pc' := 7) (x := 63) kc_11_6 rfl rfl ?_
    by_cases c24 : 63 < x1.toInt
    · refine xi_cmt (pc' := 14) kc_11_7 rfl (xc_gt_t (X := x1.toInt) (Y := 63) rfl (by decide) (by omega)) ?_
      refine xi_iconst (pc' := 15) (v := 0) kc_11_14 rfl rfl ?_
      refine xi_ireturn kc_11_15 mr_11 rfl ?_
      show xw J ov (d + 1) 55 (12, [(0, .ref 115), (1, .int x1), (2, .int x2)], [.int 0], hh16) _
      refine xi_iff (pc' := 15) kc_55_12 rfl rfl ?_
      refine xi_aload_n (pc' := 16) (x := 115) kc_55_15 rfl rfl ?_
      refine xi_bipush (pc' := 18) (v := (-2)) kc_55_16 rfl rfl ?_
      refine xi_virtual (mj := 12) (as := [.int (-2)]) (st1 := []) (lv0 := [(0, .ref 115), (1, .int (-2))]) kc_55_18 rfl rfl rfl rfl rfl eh15.1 (Nat.le_of_ble_eq_true rfl) (hJ _ _ _ _ (by decide)) (xm_le ml_12 rfl) rfl ?_
      refine xi_aload_n (pc' := 1) (x := 115) kc_12_0 rfl rfl ?_
      refine xi_getfield (pc' := 4) (v := .ref 140) kc_12_1 rfl rfl rfl eh15.1 rfl ?_
      refine xi_iload_n (pc' := 5) (x := (-2)) kc_12_4 rfl rfl ?_
      refine xi_ineg (pc' := 6) (v := 2) kc_12_5 rfl rfl ?_
      refine xi_dup2 (pc' := 7) kc_12_6 rfl ⟨rfl, rfl⟩ ?_
      obtain ⟨y25, A25, hy25, ry25⟩ := xk_arr K17.1 xD_140
      obtain ⟨v26, ev26, bv26, dv26⟩ := xj_get hy25 ry25 (i := 2) (by decide) (by decide)
      refine xi_iaload (pc' := 8) (v := v26) kc_12_7 rfl A25 (by decide) rfl (xi_in (by decide) (by rw [hy25]; decide)) ev26 ?_
      refine xi_iconst (pc' := 9) (v := 1) kc_12_8 rfl rfl ?_
      obtain ⟨v27, ev27⟩ : ∃ q : Int32, (v26 : Int32) + 1 = q := ⟨_, rfl⟩
      have rv27 := xc_rng v27
      refine xi_iadd (pc' := 10) (v := v27) kc_12_9 rfl ev27 ?_
      obtain ⟨y28, s28, hy28, ry28⟩ := xj_set (v := v27) hy25 ry25 2 (by first | omega | decide) (by first | omega | decide)
      refine xi_iastore (pc' := 11) (x' := y28) kc_12_10 rfl A25 rfl (xi_in (by decide) (by rw [hy25]; decide)) s28 (fun hh28 eh28 => ?_)
      have K29 := xk_pa K17 (xk_wa rfl) xD_140 hy28 ry28 eh28
      refine xi_iload_n (pc' := 12) (x := (-2)) kc_12_11 rfl rfl ?_
      refine xi_ireturn kc_12_12 mr_12 rfl ?_
      show xw J ov (d + 1) 55 (21, [(0, .ref 115), (1, .int x1), (2, .int x2)], [.int (-2)], hh28) _
      refine xi_ireturn kc_55_21 mr_55 rfl ?_
      have zcm2 : ((-2) : Int32).toInt = (-2) := by decide
      exact kk (-2) hh28 (by omega) K29
    · refine xi_cmf (pc' := 10) kc_11_7 rfl (xc_gt_f (X := x1.toInt) (Y := 63) rfl (by decide) (by omega)) ?_
      refine xi_iconst (pc' := 11) (v := 1) kc_11_10 rfl rfl ?_
      refine xi_goto (pc' := 15) kc_11_11 rfl ?_
      refine xi_ireturn kc_11_15 mr_11 rfl ?_
      show xw J ov (d + 1) 55 (12, [(0, .ref 115), (1, .int x1), (2, .int x2)], [.int 1], hh16) _
      refine xi_ift (pc' := 22) kc_55_12 rfl rfl ?_
      refine xi_iload_n (pc' := 23) (x := x2) kc_55_22 rfl rfl ?_
      refine xi_iconst (pc' := 24) (v := 1) kc_55_23 rfl rfl ?_
      by_cases c30 : 1 ≤ x2.toInt
      · refine xi_cmt (pc' := 34) kc_55_24 rfl (xc_ge_t (X := x2.toInt) (Y := 1) rfl (by decide) (by omega)) ?_
        refine xi_iload_n (pc' := 35) (x := x2) kc_55_34 rfl rfl ?_
        refine xi_sipush (pc' := 38) (v := 999) kc_55_35 rfl rfl ?_
        by_cases c31 : 999 < x2.toInt
        · refine xi_cmt (pc' := 50) kc_55_38 rfl (xc_gt_t (X := x2.toInt) (Y := 999) rfl (by decide) (by omega)) ?_
          refine xi_aload_n (pc' := 51) (x := 115) kc_55_50 rfl rfl ?_
          refine xi_bipush (pc' := 53) (v := (-6)) kc_55_51 rfl rfl ?_
          refine xi_virtual (mj := 12) (as := [.int (-6)]) (st1 := []) (lv0 := [(0, .ref 115), (1, .int (-6))]) kc_55_53 rfl rfl rfl rfl rfl eh15.1 (Nat.le_of_ble_eq_true rfl) (hJ _ _ _ _ (by decide)) (xm_le ml_12 rfl) rfl ?_
          refine xi_aload_n (pc' := 1) (x := 115) kc_12_0 rfl rfl ?_
          refine xi_getfield (pc' := 4) (v := .ref 140) kc_12_1 rfl rfl rfl eh15.1 rfl ?_
          refine xi_iload_n (pc' := 5) (x := (-6)) kc_12_4 rfl rfl ?_
          refine xi_ineg (pc' := 6) (v := 6) kc_12_5 rfl rfl ?_
          refine xi_dup2 (pc' := 7) kc_12_6 rfl ⟨rfl, rfl⟩ ?_
          obtain ⟨y32, A32, hy32, ry32⟩ := xk_arr K17.1 xD_140
          obtain ⟨v33, ev33, bv33, dv33⟩ := xj_get hy32 ry32 (i := 6) (by decide) (by decide)
          refine xi_iaload (pc' := 8) (v := v33) kc_12_7 rfl A32 (by decide) rfl (xi_in (by decide) (by rw [hy32]; decide)) ev33 ?_
          refine xi_iconst (pc' := 9) (v := 1) kc_12_8 rfl rfl ?_
          obtain ⟨v34, ev34⟩ : ∃ q : Int32, (v33 : Int32) + 1 = q := ⟨_, rfl⟩
          have rv34 := xc_rng v34
          refine xi_iadd (pc' := 10) (v := v34) kc_12_9 rfl ev34 ?_
          obtain ⟨y35, s35, hy35, ry35⟩ := xj_set (v := v34) hy32 ry32 6 (by first | omega | decide) (by first | omega | decide)
          refine xi_iastore (pc' := 11) (x' := y35) kc_12_10 rfl A32 rfl (xi_in (by decide) (by rw [hy32]; decide)) s35 (fun hh35 eh35 => ?_)
          have K36 := xk_pa K17 (xk_wa rfl) xD_140 hy35 ry35 eh35
          refine xi_iload_n (pc' := 12) (x := (-6)) kc_12_11 rfl rfl ?_
          refine xi_ireturn kc_12_12 mr_12 rfl ?_
          show xw J ov (d + 1) 55 (56, [(0, .ref 115), (1, .int x1), (2, .int x2)], [.int (-6)], hh35) _
          refine xi_ireturn kc_55_56 mr_55 rfl ?_
          have zcm6 : ((-6) : Int32).toInt = (-6) := by decide
          exact kk (-6) hh35 (by omega) K36
        · refine xi_cmf (pc' := 41) kc_55_38 rfl (xc_gt_f (X := x2.toInt) (Y := 999) rfl (by decide) (by omega)) ?_
          refine xi_aload_n (pc' := 42) (x := 115) kc_55_41 rfl rfl ?_
          refine xi_getfield (pc' := 45) (v := .int u10) kc_55_42 rfl rfl rfl eh15.1 rfl ?_
          refine xi_bipush (pc' := 47) (v := 8) kc_55_45 rfl rfl ?_
          by_cases c37 : u10.toInt = 8
          · refine xi_cmf (pc' := 50) kc_55_47 rfl (xc_ne_f (X := u10.toInt) (Y := 8) rfl (by decide) (by omega)) ?_
            refine xi_aload_n (pc' := 51) (x := 115) kc_55_50 rfl rfl ?_
            refine xi_bipush (pc' := 53) (v := (-6)) kc_55_51 rfl rfl ?_
            refine xi_virtual (mj := 12) (as := [.int (-6)]) (st1 := []) (lv0 := [(0, .ref 115), (1, .int (-6))]) kc_55_53 rfl rfl rfl rfl rfl eh15.1 (Nat.le_of_ble_eq_true rfl) (hJ _ _ _ _ (by decide)) (xm_le ml_12 rfl) rfl ?_
            refine xi_aload_n (pc' := 1) (x := 115) kc_12_0 rfl rfl ?_
            refine xi_getfield (pc' := 4) (v := .ref 140) kc_12_1 rfl rfl rfl eh15.1 rfl ?_
            refine xi_iload_n (pc' := 5) (x := (-6)) kc_12_4 rfl rfl ?_
            refine xi_ineg (pc' := 6) (v := 6) kc_12_5 rfl rfl ?_
            refine xi_dup2 (pc' := 7) kc_12_6 rfl ⟨rfl, rfl⟩ ?_
            obtain ⟨y38, A38, hy38, ry38⟩ := xk_arr K17.1 xD_140
            obtain ⟨v39, ev39, bv39, dv39⟩ := xj_get hy38 ry38 (i := 6) (by decide) (by decide)
            refine xi_iaload (pc' := 8) (v := v39) kc_12_7 rfl A38 (by decide) rfl (xi_in (by decide) (by rw [hy38]; decide)) ev39 ?_
            refine xi_iconst (pc' := 9) (v := 1) kc_12_8 rfl rfl ?_
            obtain ⟨v40, ev40⟩ : ∃ q : Int32, (v39 : Int32) + 1 = q := ⟨_, rfl⟩
            have rv40 := xc_rng v40
            refine xi_iadd (pc' := 10) (v := v40) kc_12_9 rfl ev40 ?_
            obtain ⟨y41, s41, hy41, ry41⟩ := xj_set (v := v40) hy38 ry38 6 (by first | omega | decide) (by first | omega | decide)
            refine xi_iastore (pc' := 11) (x' := y41) kc_12_10 rfl A38 rfl (xi_in (by decide) (by rw [hy38]; decide)) s41 (fun hh41 eh41 => ?_)
            have K42 := xk_pa K17 (xk_wa rfl) xD_140 hy41 ry41 eh41
            refine xi_iload_n (pc' := 12) (x := (-6)) kc_12_11 rfl rfl ?_
            refine xi_ireturn kc_12_12 mr_12 rfl ?_
            show xw J ov (d + 1) 55 (56, [(0, .ref 115), (1, .int x1), (2, .int x2)], [.int (-6)], hh41) _
            refine xi_ireturn kc_55_56 mr_55 rfl ?_
            have zcm6 : ((-6) : Int32).toInt = (-6) := by decide
            exact kk (-6) hh41 (by omega) K42
          · refine xi_cmt (pc' := 57) kc_55_47 rfl (xc_ne_t (X := u10.toInt) (Y := 8) rfl (by decide) (by omega)) ?_
            refine xi_aload_n (pc' := 58) (x := 115) kc_55_57 rfl rfl ?_
            refine xi_getfield (pc' := 61) (v := .ref 152) kc_55_58 rfl rfl rfl eh15.1 rfl ?_
            refine xi_aload_n (pc' := 62) (x := 115) kc_55_61 rfl rfl ?_
            refine xi_getfield (pc' := 65) (v := .int u10) kc_55_62 rfl rfl rfl eh15.1 rfl ?_
            refine xi_iload_n (pc' := 66) (x := x1) kc_55_65 rfl rfl ?_
            obtain ⟨y43, A43, hy43, ry43⟩ := xk_arr K17.1 xD_152
            obtain ⟨y44, s44, hy44, ry44⟩ := xj_set (v := x1) hy43 ry43 u10 (by first | omega | decide) (by first | omega | decide)
            refine xi_iastore (pc' := 67) (x' := y44) kc_55_66 rfl A43 rfl (xi_in (by omega) (by rw [hy43]; omega)) s44 (fun hh44 eh44 => ?_)
            have K45 := xk_pa K17 (xk_wa rfl) xD_152 hy44 ry44 eh44
            refine xi_aload_n (pc' := 68) (x := 115) kc_55_67 rfl rfl ?_
            have A46 := ((eh44.2.1 115 (by decide)).trans eh15.1)
            refine xi_getfield (pc' := 71) (v := .ref 153) kc_55_68 rfl rfl rfl A46 rfl ?_
            refine xi_aload_n (pc' := 72) (x := 115) kc_55_71 rfl rfl ?_
            refine xi_getfield (pc' := 75) (v := .int u10) kc_55_72 rfl rfl rfl A46 rfl ?_
            refine xi_iload_n (pc' := 76) (x := x2) kc_55_75 rfl rfl ?_
            obtain ⟨y47, A47, hy47, ry47⟩ := xk_arr K45.1 xD_153
            obtain ⟨y48, s48, hy48, ry48⟩ := xj_set (v := x2) hy47 ry47 u10 (by first | omega | decide) (by first | omega | decide)
            refine xi_iastore (pc' := 77) (x' := y48) kc_55_76 rfl A47 rfl (xi_in (by omega) (by rw [hy47]; omega)) s48 (fun hh48 eh48 => ?_)
            have K49 := xk_pa K45 (xk_wa rfl) xD_153 hy48 ry48 eh48
            refine xi_aload_n (pc' := 78) (x := 115) kc_55_77 rfl rfl ?_
            have A50 := ((eh48.2.1 115 (by decide)).trans A46)
            refine xi_getfield (pc' := 81) (v := .ref 154) kc_55_78 rfl rfl rfl A50 rfl ?_
            refine xi_aload_n (pc' := 82) (x := 115) kc_55_81 rfl rfl ?_
            refine xi_getfield (pc' := 85) (v := .int u10) kc_55_82 rfl rfl rfl A50 rfl ?_
            refine xi_iconst (pc' := 86) (v := 0) kc_55_85 rfl rfl ?_
            obtain ⟨y51, A51, hy51, ry51⟩ := xk_arr K49.1 xD_154
            obtain ⟨y52, s52, hy52, ry52⟩ := xj_set (v := 0) hy51 ry51 u10 (by first | omega | decide) (by first | omega | decide)
            refine xi_iastore (pc' := 87) (x' := y52) kc_55_86 rfl A51 rfl (xi_in (by omega) (by rw [hy51]; omega)) s52 (fun hh52 eh52 => ?_)
            have K53 := xk_pa K49 (xk_wa rfl) xD_154 hy52 ry52 eh52
            refine xi_aload_n (pc' := 88) (x := 115) kc_55_87 rfl rfl ?_
            refine xi_dup (pc' := 89) kc_55_88 rfl rfl ?_
            have A54 := ((eh52.2.1 115 (by decide)).trans A50)
            refine xi_getfield (pc' := 92) (v := .int u10) kc_55_89 rfl rfl rfl A54 rfl ?_
            refine xi_iconst (pc' := 93) (v := 1) kc_55_92 rfl rfl ?_
            obtain ⟨v55, ev55⟩ : ∃ q : Int32, u10 + 1 = q := ⟨_, rfl⟩
            have zv55 : v55.toInt = (u10.toInt + 1) := by rw [← ev55]; exact (xz_add (X := u10.toInt) (Y := 1) rfl (by decide) (by omega) (by omega)).trans (by omega)
            refine xi_iadd (pc' := 94) (v := v55) kc_55_93 rfl ev55 ?_
            refine xi_putfield (pc' := 97) (fs' := [.int 0, .int u2, .ref 116, .ref 117, .ref 118, .ref 119, .ref 120, .ref 121, .ref 122, .ref 123, .ref 124, .ref 125, .ref 126, .ref 127, .ref 128, .ref 129, .int u3, .ref 130, .int u4, .ref 131, .ref 132, .ref 133, .ref 134, .int u5, .ref 135, .ref 136, .ref 137, .ref 138, .ref 139, .ref 140, .ref 141, .ref 142, .int u6, .int u7, .int u8, .ref 143, .ref 144, .ref 145, .ref 146, .ref 147, .ref 148, .int u9, .ref 149, .ref 150, .ref 151, .int v55, .ref 152, .ref 153, .ref 154, .ref 155, .ref 156, .ref 157, .ref 158, .ref 159, .int u11, .ref 160, .int u12, .ref 161, .ref 162, .ref 163, .ref 164, .int u13, .ref 165, .ref 166]) kc_55_94 rfl rfl rfl A54 rfl rfl rfl (Nat.le_of_ble_eq_true rfl) rfl (fun hh57 eh56 => ?_)
            have K58 := xk_pf (k := 45) (v := v55) K53 (xk_wf rfl) xD_115 A54 rfl (by first | omega | decide) (by first | omega | decide) eh56 rfl
            refine xi_aload_n (pc' := 98) (x := 115) kc_55_97 rfl rfl ?_
            refine xi_getfield (pc' := 101) (v := .int v55) kc_55_98 rfl rfl rfl eh56.1 rfl ?_
            refine xi_iconst (pc' := 102) (v := 1) kc_55_101 rfl rfl ?_
            obtain ⟨v59, ev59⟩ : ∃ q : Int32, v55 - 1 = q := ⟨_, rfl⟩
            have zv59 : v59.toInt = u10.toInt := by rw [← ev59]; exact (xz_sub (X := (u10.toInt + 1)) (Y := 1) zv55 (by decide) (by omega) (by omega)).trans (by omega)
            refine xi_isub (pc' := 103) (v := v59) kc_55_102 rfl ev59 ?_
            refine xi_ireturn kc_55_103 mr_55 rfl ?_
            exact kk v59 hh57 (by omega) K58
      · refine xi_cmf (pc' := 27) kc_55_24 rfl (xc_ge_f (X := x2.toInt) (Y := 1) rfl (by decide) (by omega)) ?_
        refine xi_aload_n (pc' := 28) (x := 115) kc_55_27 rfl rfl ?_
        refine xi_bipush (pc' := 30) (v := (-4)) kc_55_28 rfl rfl ?_
        refine xi_virtual (mj := 12) (as := [.int (-4)]) (st1 := []) (lv0 := [(0, .ref 115), (1, .int (-4))]) kc_55_30 rfl rfl rfl rfl rfl eh15.1 (Nat.le_of_ble_eq_true rfl) (hJ _ _ _ _ (by decide)) (xm_le ml_12 rfl) rfl ?_
        refine xi_aload_n (pc' := 1) (x := 115) kc_12_0 rfl rfl ?_
        refine xi_getfield (pc' := 4) (v := .ref 140) kc_12_1 rfl rfl rfl eh15.1 rfl ?_
        refine xi_iload_n (pc' := 5) (x := (-4)) kc_12_4 rfl rfl ?_
        refine xi_ineg (pc' := 6) (v := 4) kc_12_5 rfl rfl ?_
        refine xi_dup2 (pc' := 7) kc_12_6 rfl ⟨rfl, rfl⟩ ?_
        obtain ⟨y60, A60, hy60, ry60⟩ := xk_arr K17.1 xD_140
        obtain ⟨v61, ev61, bv61, dv61⟩ := xj_get hy60 ry60 (i := 4) (by decide) (by decide)
        refine xi_iaload (pc' := 8) (v := v61) kc_12_7 rfl A60 (by decide) rfl (xi_in (by decide) (by rw [hy60]; decide)) ev61 ?_
        refine xi_iconst (pc' := 9) (v := 1) kc_12_8 rfl rfl ?_
        obtain ⟨v62, ev62⟩ : ∃ q : Int32, (v61 : Int32) + 1 = q := ⟨_, rfl⟩
        have rv62 := xc_rng v62
        refine xi_iadd (pc' := 10) (v := v62) kc_12_9 rfl ev62 ?_
        obtain ⟨y63, s63, hy63, ry63⟩ := xj_set (v := v62) hy60 ry60 4 (by first | omega | decide) (by first | omega | decide)
        refine xi_iastore (pc' := 11) (x' := y63) kc_12_10 rfl A60 rfl (xi_in (by decide) (by rw [hy60]; decide)) s63 (fun hh63 eh63 => ?_)
        have K64 := xk_pa K17 (xk_wa rfl) xD_140 hy63 ry63 eh63
        refine xi_iload_n (pc' := 12) (x := (-4)) kc_12_11 rfl rfl ?_
        refine xi_ireturn kc_12_12 mr_12 rfl ?_
        show xw J ov (d + 1) 55 (33, [(0, .ref 115), (1, .int x1), (2, .int x2)], [.int (-4)], hh63) _
        refine xi_ireturn kc_55_33 mr_55 rfl ?_
        have zcm4 : ((-4) : Int32).toInt = (-4) := by decide
        exact kk (-4) hh63 (by omega) K64
set_option maxHeartbeats 4000000 in
theorem mt_56_0 {J : xe_J} {ov : List (List Int32)} (hJ : ∀ d mj as h, mj ≠ xe_loff → J d mj as h = none) (hov1 : ov[1]? = some [10, 0, 0, 0, 0, 0]) (hov2 : ov[2]? = some [99, 30, 50, 50, 1, 99999]) {d : Nat} {Q : Option Value → xe_H → Prop} {h : xe_H} {x1 : Int32} {x2 : Int32} (T : xt h) (b2 : (0 ≤ x2.toInt ∧ x2.toInt ≤ 1)) (kk : (∀ (r : Int32) (h' : xe_H), xk [(0, 9), (115, 1), (83, 0), (6, 0), (123, 0), (9, 0), (124, 0), (7, 0), (10, 0), (5, 0), (8, 0)] h h' → Q (some (.int r)) h')) : xw J ov (d + 8) 56 (0, [(0, .ref 115), (1, .int x1), (2, .int x2)], [], h) Q := by
  have K : xk [(0, 9), (115, 1), (83, 0), (6, 0), (123, 0), (9, 0), (124, 0), (7, 0), (10, 0), (5, 0), (8, 0)] h h := xk_re T
  have rx1 := xc_rng x1
  refine xi_aload_n (pc' := 1) (x := 115) kc_56_0 rfl rfl ?_
  refine xi_iconst (pc' := 2) (v := 0) kc_56_1 rfl rfl ?_
  obtain ⟨u1, u2, u3, u4, u5, u6, u7, u8, u9, u10, u11, u12, u13, bu1, bu2, bu3, bu4, bu5, bu6, bu7, bu8, bu9, bu10, bu11, bu12, bu13, A14⟩ := xq_115 K.1
  refine xi_putfield (pc' := 5) (fs' := [.int 0, .int u2, .ref 116, .ref 117, .ref 118, .ref 119, .ref 120, .ref 121, .ref 122, .ref 123, .ref 124, .ref 125, .ref 126, .ref 127, .ref 128, .ref 129, .int u3, .ref 130, .int u4, .ref 131, .ref 132, .ref 133, .ref 134, .int u5, .ref 135, .ref 136, .ref 137, .ref 138, .ref 139, .ref 140, .ref 141, .ref 142, .int u6, .int u7, .int u8, .ref 143, .ref 144, .ref 145, .ref 146, .ref 147, .ref 148, .int u9, .ref 149, .ref 150, .ref 151, .int u10, .ref 152, .ref 153, .ref 154, .ref 155, .ref 156, .ref 157, .ref 158, .ref 159, .int u11, .ref 160, .int u12, .ref 161, .ref 162, .ref 163, .ref 164, .int u13, .ref 165, .ref 166]) kc_56_2 rfl rfl rfl A14 rfl rfl rfl (Nat.le_of_ble_eq_true rfl) rfl (fun hh16 eh15 => ?_)
  have K17 := xk_pf (k := 0) (v := 0) K (xk_wf rfl) xD_115 A14 rfl (by first | omega | decide) (by first | omega | decide) eh15 rfl
  refine xi_iload_n (pc' := 6) (x := x1) kc_56_5 rfl rfl ?_
  refine xi_iconst (pc' := 7) (v := 0) kc_56_6 rfl rfl ?_
  refine xi_aload_n (pc' := 8) (x := 115) kc_56_7 rfl rfl ?_
  refine xi_getfield (pc' := 11) (v := .int u10) kc_56_8 rfl rfl rfl eh15.1 rfl ?_
  refine xi_iconst (pc' := 12) (v := 1) kc_56_11 rfl rfl ?_
  obtain ⟨v18, ev18⟩ : ∃ q : Int32, u10 - 1 = q := ⟨_, rfl⟩
  have zv18 : v18.toInt = (u10.toInt + (-1)) := by rw [← ev18]; exact (xz_sub (X := u10.toInt) (Y := 1) rfl (by decide) (by omega) (by omega)).trans (by omega)
  refine xi_isub (pc' := 13) (v := v18) kc_56_12 rfl ev18 ?_
  refine xi_static (mj := 11) (as := [.int x1, .int 0, .int v18]) (st1 := []) (lv0 := [(0, .int x1), (1, .int 0), (2, .int v18)]) kc_56_13 rfl rfl (Nat.le_of_ble_eq_true rfl) rfl rfl (Nat.le_of_ble_eq_true rfl) (hJ _ _ _ _ (by decide)) (xm_le ml_11 rfl) rfl ?_
  refine xi_iload_n (pc' := 1) (x := x1) kc_11_0 rfl rfl ?_
  refine xi_iload_n (pc' := 2) (x := 0) kc_11_1 rfl rfl ?_
  by_cases c19 : x1.toInt < 0
  · refine xi_cmt (pc' := 14) kc_11_2 rfl (xc_lt_t (X := x1.toInt) (Y := 0) rfl (by decide) (by omega)) ?_
    refine xi_iconst (pc' := 15) (v := 0) kc_11_14 rfl rfl ?_
    refine xi_ireturn kc_11_15 mr_11 rfl ?_
    show xw J ov (d + 8) 56 (16, [(0, .ref 115), (1, .int x1), (2, .int x2)], [.int 0], hh16) _
    refine xi_iff (pc' := 19) kc_56_16 rfl rfl ?_
    refine xi_aload_n (pc' := 20) (x := 115) kc_56_19 rfl rfl ?_
    refine xi_iconst (pc' := 21) (v := (-1)) kc_56_20 rfl rfl ?_
    refine xi_virtual (mj := 12) (as := [.int (-1)]) (st1 := []) (lv0 := [(0, .ref 115), (1, .int (-1))]) kc_56_21 rfl rfl rfl rfl rfl eh15.1 (Nat.le_of_ble_eq_true rfl) (hJ _ _ _ _ (by decide)) (xm_le ml_12 rfl) rfl ?_
    refine xi_aload_n (pc' := 1) (x := 115) kc_12_0 rfl rfl ?_
    refine xi_getfield (pc' := 4) (v := .ref 140) kc_12_1 rfl rfl rfl eh15.1 rfl ?_
    refine xi_iload_n (pc' := 5) (x := (-1)) kc_12_4 rfl rfl ?_
    refine xi_ineg (pc' := 6) (v := 1) kc_12_5 rfl rfl ?_
    refine xi_dup2 (pc' := 7) kc_12_6 rfl ⟨rfl, rfl⟩ ?_
    obtain ⟨y20, A20, hy20, ry20⟩ := xk_arr K17.1 xD_140
    obtain ⟨v21, ev21, bv21, dv21⟩ := xj_get hy20 ry20 (i := 1) (by decide) (by decide)
    refine xi_iaload (pc' := 8) (v := v21) kc_12_7 rfl A20 (by decide) rfl (xi_in (by decide) (by rw [hy20]; decide)) ev21 ?_
    refine xi_iconst (pc' := 9) (v := 1) kc_12_8 rfl rfl ?_
    obtain ⟨v22, ev22⟩ : ∃ q : Int32, (v21 : Int32) + 1 = q := ⟨_, rfl⟩
    have rv22 := xc_rng v22
    refine xi_iadd (pc' := 10) (v := v22) kc_12_9 rfl ev22 ?_
    obtain ⟨y23, s23, hy23, ry23⟩ := xj_set (v := v22) hy20 ry20 1 (by first | omega | decide) (by first | omega | decide)
    refine xi_iastore (pc' := 11) (x' := y23) kc_12_10 rfl A20 rfl (xi_in (by decide) (by rw [hy20]; decide)) s23 (fun hh23 eh23 => ?_)
    have K24 := xk_pa K17 (xk_wa rfl) xD_140 hy23 ry23 eh23
    refine xi_iload_n (pc' := 12) (x := (-1)) kc_12_11 rfl rfl ?_
    refine xi_ireturn kc_12_12 mr_12 rfl ?_
    show xw J ov (d + 8) 56 (24, [(0, .ref 115), (1, .int x1), (2, .int x2)], [.int (-1)], hh23) _
    refine xi_ireturn kc_56_24 mr_56 rfl ?_
    have zcm1 : ((-1) : Int32).toInt = (-1) := by decide
    exact kk (-1) hh23 K24
  · refine xi_cmf (pc' := 5) kc_11_2 rfl (xc_lt_f (X := x1.toInt) (Y := 0) rfl (by decide) (by omega)) ?_
    refine xi_iload_n (pc' := 6) (x := x1) kc_11_5 rfl rfl ?_
    refine xi_iload_n (pc' := 7) (x := v18) kc_11_6 rfl rfl ?_
    by_cases c25 : (u10.toInt + (-1)) < x1.toInt
    · refine xi_cmt (pc' := 14) kc_11_7 rfl (xc_gt_t (X := x1.toInt) (Y := (u10.toInt + (-1))) rfl zv18 (by omega)) ?_
      refine xi_iconst (pc' := 15) (v := 0) kc_11_14 rfl rfl ?_
      refine xi_ireturn kc_11_15 mr_11 rfl ?_
      show xw J ov (d + 8) 56 (16, [(0, .ref 115), (1, .int x1), (2, .int x2)], [.int 0], hh16) _
      refine xi_iff (pc' := 19) kc_56_16 rfl rfl ?_
      refine xi_aload_n (pc' := 20) (x := 115) kc_56_19 rfl rfl ?_
      refine xi_iconst (pc' := 21) (v := (-1)) kc_56_20 rfl rfl ?_
      refine xi_virtual (mj := 12) (as := [.int (-1)]) (st1 := []) (lv0 := [(0, .ref 115), (1, .int (-1))]) kc_56_21 rfl rfl rfl rfl rfl eh15.1 (Nat.le_of_ble_eq_true rfl) (hJ _ _ _ _ (by decide)) (xm_le ml_12 rfl) rfl ?_
      refine xi_aload_n (pc' := 1) (x := 115) kc_12_0 rfl rfl ?_
      refine xi_getfield (pc' := 4) (v := .ref 140) kc_12_1 rfl rfl rfl eh15.1 rfl ?_
      refine xi_iload_n (pc' := 5) (x := (-1)) kc_12_4 rfl rfl ?_
      refine xi_ineg (pc' := 6) (v := 1) kc_12_5 rfl rfl ?_
      refine xi_dup2 (pc' := 7) kc_12_6 rfl ⟨rfl, rfl⟩ ?_
      obtain ⟨y26, A26, hy26, ry26⟩ := xk_arr K17.1 xD_140
      obtain ⟨v27, ev27, bv27, dv27⟩ := xj_get hy26 ry26 (i := 1) (by decide) (by decide)
      refine xi_iaload (pc' := 8) (v := v27) kc_12_7 rfl A26 (by decide) rfl (xi_in (by decide) (by rw [hy26]; decide)) ev27 ?_
      refine xi_iconst (pc' := 9) (v := 1) kc_12_8 rfl rfl ?_
      obtain ⟨v28, ev28⟩ : ∃ q : Int32, (v27 : Int32) + 1 = q := ⟨_, rfl⟩
      have rv28 := xc_rng v28
      refine xi_iadd (pc' := 10) (v := v28) kc_12_9 rfl ev28 ?_
      obtain ⟨y29, s29, hy29, ry29⟩ := xj_set (v := v28) hy26 ry26 1 (by first | omega | decide) (by first | omega | decide)
      refine xi_iastore (pc' := 11) (x' := y29) kc_12_10 rfl A26 rfl (xi_in (by decide) (by rw [hy26]; decide)) s29 (fun hh29 eh29 => ?_)
      have K30 := xk_pa K17 (xk_wa rfl) xD_140 hy29 ry29 eh29
      refine xi_iload_n (pc' := 12) (x := (-1)) kc_12_11 rfl rfl ?_
      refine xi_ireturn kc_12_12 mr_12 rfl ?_
      show xw J ov (d + 8) 56 (24, [(0, .ref 115), (1, .int x1), (2, .int x2)], [.int (-1)], hh29) _
      refine xi_ireturn kc_56_24 mr_56 rfl ?_
      have zcm1 : ((-1) : Int32).toInt = (-1) := by decide
      exact kk (-1) hh29 K30
    · refine xi_cmf (pc' := 10) kc_11_7 rfl (xc_gt_f (X := x1.toInt) (Y := (u10.toInt + (-1))) rfl zv18 (by omega)) ?_
      refine xi_iconst (pc' := 11) (v := 1) kc_11_10 rfl rfl ?_
      refine xi_goto (pc' := 15) kc_11_11 rfl ?_
      refine xi_ireturn kc_11_15 mr_11 rfl ?_
      show xw J ov (d + 8) 56 (16, [(0, .ref 115), (1, .int x1), (2, .int x2)], [.int 1], hh16) _
      refine xi_ift (pc' := 25) kc_56_16 rfl rfl ?_
      refine xi_aload_n (pc' := 26) (x := 115) kc_56_25 rfl rfl ?_
      refine xi_getfield (pc' := 29) (v := .ref 154) kc_56_26 rfl rfl rfl eh15.1 rfl ?_
      refine xi_iload_n (pc' := 30) (x := x1) kc_56_29 rfl rfl ?_
      obtain ⟨y31, A31, hy31, ry31⟩ := xk_arr K17.1 xD_154
      obtain ⟨v32, ev32, bv32, dv32⟩ := xj_get hy31 ry31 (i := x1) (by omega) (by omega)
      refine xi_iaload (pc' := 31) (v := v32) kc_56_30 rfl A31 (by decide) rfl (xi_in (by omega) (by rw [hy31]; omega)) ev32 ?_
      by_cases c33 : v32.toInt = 0
      · refine xi_ift (pc' := 41) kc_56_31 rfl (xc_eq_t (X := v32.toInt) (Y := 0) rfl (by decide) (by omega)) ?_
        refine xi_aload_n (pc' := 42) (x := 115) kc_56_41 rfl rfl ?_
        refine xi_getfield (pc' := 45) (v := .ref 154) kc_56_42 rfl rfl rfl eh15.1 rfl ?_
        refine xi_iload_n (pc' := 46) (x := x1) kc_56_45 rfl rfl ?_
        refine xi_iload_n (pc' := 47) (x := x2) kc_56_46 rfl rfl ?_
        by_cases c34 : x2.toInt = 0
        · refine xi_ift (pc' := 54) kc_56_47 rfl (xc_eq_t (X := x2.toInt) (Y := 0) rfl (by decide) (by omega)) ?_
          refine xi_iconst (pc' := 55) (v := 2) kc_56_54 rfl rfl ?_
          obtain ⟨y35, s35, hy35, ry35⟩ := xj_set (v := 2) hy31 ry31 x1 (by first | omega | decide) (by first | omega | decide)
          refine xi_iastore (pc' := 56) (x' := y35) kc_56_55 rfl A31 rfl (xi_in (by omega) (by rw [hy31]; omega)) s35 (fun hh35 eh35 => ?_)
          have K36 := xk_pa K17 (xk_wa rfl) xD_154 hy35 ry35 eh35
          refine xi_aload_n (pc' := 57) (x := 115) kc_56_56 rfl rfl ?_
          have A37 := ((eh35.2.1 115 (by decide)).trans eh15.1)
          refine xi_virtual (mj := 52) (as := []) (st1 := []) (lv0 := [(0, .ref 115)]) kc_56_57 rfl rfl rfl rfl rfl A37 (Nat.le_of_ble_eq_true rfl) (hJ _ _ _ _ (by decide)) (xm_le ml_52 rfl) rfl ?_
          refine mt_52_0 hJ hov1 hov2 (d := d)  K36.1 (fun r38 hh39 K40 => ?_)
          have br38 := xc_rng r38
          have K41 := xk_tr K36 K40 rfl
          obtain ⟨u42, u43, u44, u45, u46, u47, u48, u49, u50, u51, u52, u53, u54, bu42, bu43, bu44, bu45, bu46, bu47, bu48, bu49, bu50, bu51, bu52, bu53, bu54, A55⟩ := xq_115 K41.1
          have e56 : u2 = u43 := xk_eqi (q := 1) K40 rfl A37 A55 rfl rfl
          subst e56
          show xw J ov (d + 8) 56 (60, [(0, .ref 115), (1, .int x1), (2, .int x2)], [.int r38], hh39) _
          refine xi_ireturn kc_56_60 mr_56 rfl ?_
          exact kk r38 hh39 K41
        · refine xi_iff (pc' := 50) kc_56_47 rfl (xc_eq_f (X := x2.toInt) (Y := 0) rfl (by decide) (by omega)) ?_
          refine xi_iconst (pc' := 51) (v := 1) kc_56_50 rfl rfl ?_
          refine xi_goto (pc' := 55) kc_56_51 rfl ?_
          obtain ⟨y57, s57, hy57, ry57⟩ := xj_set (v := 1) hy31 ry31 x1 (by first | omega | decide) (by first | omega | decide)
          refine xi_iastore (pc' := 56) (x' := y57) kc_56_55 rfl A31 rfl (xi_in (by omega) (by rw [hy31]; omega)) s57 (fun hh57 eh57 => ?_)
          have K58 := xk_pa K17 (xk_wa rfl) xD_154 hy57 ry57 eh57
          refine xi_aload_n (pc' := 57) (x := 115) kc_56_56 rfl rfl ?_
          have A59 := ((eh57.2.1 115 (by decide)).trans eh15.1)
          refine xi_virtual (mj := 52) (as := []) (st1 := []) (lv0 := [(0, .ref 115)]) kc_56_57 rfl rfl rfl rfl rfl A59 (Nat.le_of_ble_eq_true rfl) (hJ _ _ _ _ (by decide)) (xm_le ml_52 rfl) rfl ?_
          refine mt_52_0 hJ hov1 hov2 (d := d)  K58.1 (fun r60 hh61 K62 => ?_)
          have br60 := xc_rng r60
          have K63 := xk_tr K58 K62 rfl
          obtain ⟨u64, u65, u66, u67, u68, u69, u70, u71, u72, u73, u74, u75, u76, bu64, bu65, bu66, bu67, bu68, bu69, bu70, bu71, bu72, bu73, bu74, bu75, bu76, A77⟩ := xq_115 K63.1
          have e78 : u2 = u65 := xk_eqi (q := 1) K62 rfl A59 A77 rfl rfl
          subst e78
          show xw J ov (d + 8) 56 (60, [(0, .ref 115), (1, .int x1), (2, .int x2)], [.int r60], hh61) _
          refine xi_ireturn kc_56_60 mr_56 rfl ?_
          exact kk r60 hh61 K63
      · refine xi_iff (pc' := 34) kc_56_31 rfl (xc_eq_f (X := v32.toInt) (Y := 0) rfl (by decide) (by omega)) ?_
        refine xi_aload_n (pc' := 35) (x := 115) kc_56_34 rfl rfl ?_
        refine xi_bipush (pc' := 37) (v := (-3)) kc_56_35 rfl rfl ?_
        refine xi_virtual (mj := 12) (as := [.int (-3)]) (st1 := []) (lv0 := [(0, .ref 115), (1, .int (-3))]) kc_56_37 rfl rfl rfl rfl rfl eh15.1 (Nat.le_of_ble_eq_true rfl) (hJ _ _ _ _ (by decide)) (xm_le ml_12 rfl) rfl ?_
        refine xi_aload_n (pc' := 1) (x := 115) kc_12_0 rfl rfl ?_
        refine xi_getfield (pc' := 4) (v := .ref 140) kc_12_1 rfl rfl rfl eh15.1 rfl ?_
        refine xi_iload_n (pc' := 5) (x := (-3)) kc_12_4 rfl rfl ?_
        refine xi_ineg (pc' := 6) (v := 3) kc_12_5 rfl rfl ?_
        refine xi_dup2 (pc' := 7) kc_12_6 rfl ⟨rfl, rfl⟩ ?_
        obtain ⟨y79, A79, hy79, ry79⟩ := xk_arr K17.1 xD_140
        obtain ⟨v80, ev80, bv80, dv80⟩ := xj_get hy79 ry79 (i := 3) (by decide) (by decide)
        refine xi_iaload (pc' := 8) (v := v80) kc_12_7 rfl A79 (by decide) rfl (xi_in (by decide) (by rw [hy79]; decide)) ev80 ?_
        refine xi_iconst (pc' := 9) (v := 1) kc_12_8 rfl rfl ?_
        obtain ⟨v81, ev81⟩ : ∃ q : Int32, (v80 : Int32) + 1 = q := ⟨_, rfl⟩
        have rv81 := xc_rng v81
        refine xi_iadd (pc' := 10) (v := v81) kc_12_9 rfl ev81 ?_
        obtain ⟨y82, s82, hy82, ry82⟩ := xj_set (v := v81) hy79 ry79 3 (by first | omega | decide) (by first | omega | decide)
        refine xi_iastore (pc' := 11) (x' := y82) kc_12_10 rfl A79 rfl (xi_in (by decide) (by rw [hy79]; decide)) s82 (fun hh82 eh82 => ?_)
        have K83 := xk_pa K17 (xk_wa rfl) xD_140 hy82 ry82 eh82
        refine xi_iload_n (pc' := 12) (x := (-3)) kc_12_11 rfl rfl ?_
        refine xi_ireturn kc_12_12 mr_12 rfl ?_
        show xw J ov (d + 8) 56 (40, [(0, .ref 115), (1, .int x1), (2, .int x2)], [.int (-3)], hh82) _
        refine xi_ireturn kc_56_40 mr_56 rfl ?_
        have zcm3 : ((-3) : Int32).toInt = (-3) := by decide
        exact kk (-3) hh82 K83
set_option maxHeartbeats 4000000 in
theorem lp_57_0 {J : xe_J} {ov : List (List Int32)} (hJ : ∀ d mj as h, mj ≠ xe_loff → J d mj as h = none) (hov1 : ov[1]? = some [10, 0, 0, 0, 0, 0]) (hov2 : ov[2]? = some [99, 30, 50, 50, 1, 99999]) {d : Nat} {Q : Option Value → xe_H → Prop} {hb : xe_H} (kk : (∀ (r : Int32) (h' : xe_H), ((-9) ≤ r.toInt ∧ r.toInt ≤ 7) → xk [(0, 9), (115, 1), (83, 0), (6, 0), (123, 0), (9, 0), (124, 0), (7, 0), (10, 0), (5, 0), (8, 0)] hb h' → Q (some (.int r)) h')) : ∀ m : Nat, (∀ (x1 : Int32) (x2 : Int32) (x3 : Int32) (x4 : Int32) (h : xe_H), ((-9) ≤ x2.toInt ∧ x2.toInt ≤ 7) → (0 ≤ x4.toInt ∧ x4.toInt ≤ 8) → xk [(0, 9), (115, 1), (83, 0), (6, 0), (123, 0), (9, 0), (124, 0), (7, 0), (10, 0), (5, 0), (8, 0)] hb h → (-66) * x4.toInt + 593 < (m : Int) → xw J ov (d + 8) 57 (18, [(0, .ref 115), (1, .int x1), (2, .int x2), (3, .int x3), (4, .int x4)], [], h) Q) ∧ (∀ (x1 : Int32) (x2 : Int32) (x3 : Int32) (x4 : Int32) (x5 : Int32) (x6 : Int32) (h : xe_H), (1 ≤ x1.toInt ∧ x1.toInt ≤ 2147483647) → ((-9) ≤ x2.toInt ∧ x2.toInt ≤ 7) → (0 ≤ x4.toInt ∧ x4.toInt ≤ 7) → (0 ≤ x6.toInt ∧ x6.toInt ≤ 64) → xk [(0, 9), (115, 1), (83, 0), (6, 0), (123, 0), (9, 0), (124, 0), (7, 0), (10, 0), (5, 0), (8, 0)] hb h → (-66) * x4.toInt + (-1) * x6.toInt + 592 < (m : Int) → xw J ov (d + 8) 57 (37, [(0, .ref 115), (1, .int x1), (2, .int x2), (3, .int x3), (4, .int x4), (5, .int x5), (6, .int x6)], [], h) Q) := by
  intro m
  induction m with
  | zero =>
    refine ⟨?_, ?_⟩
    · intro x1 x2 x3 x4 h b2 b4 K hm; have rx1 := xc_rng x1; have rx3 := xc_rng x3; exfalso; omega
    · intro x1 x2 x3 x4 x5 x6 h b1 b2 b4 b6 K hm; have rx3 := xc_rng x3; have rx5 := xc_rng x5; exfalso; omega
  | succ m ih =>
    obtain ⟨i0, i1⟩ := ih
    refine ⟨?_, ?_⟩
    · intro x1 x2 x3 x4 h b2 b4 K hm
      have rx1 := xc_rng x1
      have rx3 := xc_rng x3
      refine xi_iload (pc' := 20) (x := x4) kc_57_18 rfl rfl ?_
      refine xi_aload_n (pc' := 21) (x := 115) kc_57_20 rfl rfl ?_
      obtain ⟨u1, u2, u3, u4, u5, u6, u7, u8, u9, u10, u11, u12, u13, bu1, bu2, bu3, bu4, bu5, bu6, bu7, bu8, bu9, bu10, bu11, bu12, bu13, A14⟩ := xq_115 K.1
      refine xi_getfield (pc' := 24) (v := .int u10) kc_57_21 rfl rfl rfl A14 rfl ?_
      by_cases c15 : u10.toInt ≤ x4.toInt
      · refine xi_cmt (pc' := 143) kc_57_24 rfl (xc_ge_t (X := x4.toInt) (Y := u10.toInt) rfl rfl (by omega)) ?_
        refine xi_iload_n (pc' := 144) (x := x2) kc_57_143 rfl rfl ?_
        refine xi_ireturn kc_57_144 mr_57 rfl ?_
        exact kk x2 h (by omega) K
      · refine xi_cmf (pc' := 27) kc_57_24 rfl (xc_ge_f (X := x4.toInt) (Y := u10.toInt) rfl rfl (by omega)) ?_
        refine xi_iload_n (pc' := 28) (x := x1) kc_57_27 rfl rfl ?_
        by_cases c16 : x1.toInt ≤ 0
        · refine xi_ift (pc' := 143) kc_57_28 rfl (xc_le_t (X := x1.toInt) (Y := 0) rfl (by decide) (by omega)) ?_
          refine xi_iload_n (pc' := 144) (x := x2) kc_57_143 rfl rfl ?_
          refine xi_ireturn kc_57_144 mr_57 rfl ?_
          exact kk x2 h (by omega) K
        · refine xi_iff (pc' := 31) kc_57_28 rfl (xc_le_f (X := x1.toInt) (Y := 0) rfl (by decide) (by omega)) ?_
          refine xi_iconst (pc' := 32) (v := 0) kc_57_31 rfl rfl ?_
          refine xi_istore (pc' := 34) (lv' := [(5, .int 0), (0, .ref 115), (1, .int x1), (2, .int x2), (3, .int x3), (4, .int x4)]) kc_57_32 rfl rfl (xm_lt ml_57 rfl) ?_
          refine xi_iconst (pc' := 35) (v := 0) kc_57_34 rfl rfl ?_
          refine xi_istore (pc' := 37) (lv' := [(6, .int 0), (5, .int 0), (0, .ref 115), (1, .int x1), (2, .int x2), (3, .int x3), (4, .int x4)]) kc_57_35 rfl rfl (xm_lt ml_57 rfl) ?_
          have zc0 : (0 : Int32).toInt = 0 := by decide
          refine xw_lv (b := [(0, .ref 115), (1, .int x1), (2, .int x2), (3, .int x3), (4, .int x4), (5, .int 0), (6, .int 0)]) (lvS_cons (lvS_cons (lvS_cons (lvS_cons (lvS_cons (lvS_cons (lvS_cons (lvS_nil (show ([6, 5, 0, 1, 2, 3, 4] : List Nat).Nodup by decide)) rfl) rfl) rfl) rfl) rfl) rfl) rfl) ?_
          exact i1 x1 x2 x3 x4 0 0 h (by omega) (by omega) (by omega) (by omega) K (by omega)
    · intro x1 x2 x3 x4 x5 x6 h b1 b2 b4 b6 K hm
      have rx3 := xc_rng x3
      have rx5 := xc_rng x5
      refine xi_iload (pc' := 39) (x := x6) kc_57_37 rfl rfl ?_
      refine xi_aload_n (pc' := 40) (x := 115) kc_57_39 rfl rfl ?_
      obtain ⟨u1, u2, u3, u4, u5, u6, u7, u8, u9, u10, u11, u12, u13, bu1, bu2, bu3, bu4, bu5, bu6, bu7, bu8, bu9, bu10, bu11, bu12, bu13, A14⟩ := xq_115 K.1
      refine xi_virtual (mj := 42) (as := []) (st1 := [.int x6]) (lv0 := [(0, .ref 115)]) kc_57_40 rfl rfl rfl rfl rfl A14 (Nat.le_of_ble_eq_true rfl) (hJ _ _ _ _ (by decide)) (xm_le ml_42 rfl) rfl ?_
      refine xi_iconst (pc' := 1) (v := 1) kc_42_0 rfl rfl ?_
      refine xi_aload_n (pc' := 2) (x := 115) kc_42_1 rfl rfl ?_
      refine xi_getfield (pc' := 5) (v := .int u5) kc_42_2 rfl rfl rfl A14 rfl ?_
      refine xi_bipush (pc' := 7) (v := 6) kc_42_5 rfl rfl ?_
      by_cases c15 : 6 ≤ u5.toInt
      · refine xi_cmt (pc' := 17) kc_42_7 rfl (xc_ge_t (X := u5.toInt) (Y := 6) rfl (by decide) (by omega)) ?_
        refine xi_bipush (pc' := 19) (v := 6) kc_42_17 rfl rfl ?_
        refine xi_ishl (pc' := 20) (v := 64) kc_42_19 rfl rfl ?_
        refine xi_ireturn kc_42_20 mr_42 rfl ?_
        show xw J ov (d + 8) 57 (43, [(0, .ref 115), (1, .int x1), (2, .int x2), (3, .int x3), (4, .int x4), (5, .int x5), (6, .int x6)], [.int 64, .int x6], h) _
        by_cases c16 : 64 ≤ x6.toInt
        · refine xi_cmt (pc' := 83) kc_57_43 rfl (xc_ge_t (X := x6.toInt) (Y := 64) rfl (by decide) (by omega)) ?_
          refine xi_aload_n (pc' := 84) (x := 115) kc_57_83 rfl rfl ?_
          refine xi_getfield (pc' := 87) (v := .ref 153) kc_57_84 rfl rfl rfl A14 rfl ?_
          refine xi_iload (pc' := 89) (x := x4) kc_57_87 rfl rfl ?_
          obtain ⟨y17, A17, hy17, ry17⟩ := xk_arr K.1 xD_153
          obtain ⟨v18, ev18, bv18, dv18⟩ := xj_get hy17 ry17 (i := x4) (by omega) (by omega)
          refine xi_iaload (pc' := 90) (v := v18) kc_57_89 rfl A17 (by decide) rfl (xi_in (by omega) (by rw [hy17]; omega)) ev18 ?_
          refine xi_iload (pc' := 92) (x := x5) kc_57_90 rfl rfl ?_
          refine xi_iload_n (pc' := 93) (x := x1) kc_57_92 rfl rfl ?_
          refine xi_iload (pc' := 95) (x := x5) kc_57_93 rfl rfl ?_
          obtain ⟨v19, ev19⟩ : ∃ q : Int32, (x1 : Int32) - x5 = q := ⟨_, rfl⟩
          have rv19 := xc_rng v19
          refine xi_isub (pc' := 96) (v := v19) kc_57_95 rfl ev19 ?_
          by_cases c20 : x5.toInt ≤ v19.toInt
          · refine xi_cmt (pc' := 104) kc_57_96 rfl (xc_le_t (X := x5.toInt) (Y := v19.toInt) rfl rfl (by omega)) ?_
            refine xi_iload_n (pc' := 105) (x := x1) kc_57_104 rfl rfl ?_
            refine xi_iload (pc' := 107) (x := x5) kc_57_105 rfl rfl ?_
            refine xi_isub (pc' := 108) (v := v19) kc_57_107 rfl ev19 ?_
            obtain ⟨v21, ev21⟩ : ∃ q : Int32, (v18 : Int32) * v19 = q := ⟨_, rfl⟩
            have rv21 := xc_rng v21
            refine xi_imul (pc' := 109) (v := v21) kc_57_108 rfl ev21 ?_
            refine xi_istore (pc' := 111) (lv' := [(6, .int v21), (0, .ref 115), (1, .int x1), (2, .int x2), (3, .int x3), (4, .int x4), (5, .int x5)]) kc_57_109 rfl rfl (xm_lt ml_57 rfl) ?_
            refine xi_aload_n (pc' := 112) (x := 115) kc_57_111 rfl rfl ?_
            refine xi_getfield (pc' := 115) (v := .ref 154) kc_57_112 rfl rfl rfl A14 rfl ?_
            refine xi_iload (pc' := 117) (x := x4) kc_57_115 rfl rfl ?_
            obtain ⟨y22, A22, hy22, ry22⟩ := xk_arr K.1 xD_154
            obtain ⟨v23, ev23, bv23, dv23⟩ := xj_get hy22 ry22 (i := x4) (by omega) (by omega)
            refine xi_iaload (pc' := 118) (v := v23) kc_57_117 rfl A22 (by decide) rfl (xi_in (by omega) (by rw [hy22]; omega)) ev23 ?_
            by_cases c24 : v23.toInt = 0
            · refine xi_iff (pc' := 121) kc_57_118 rfl (xc_ne_f (X := v23.toInt) (Y := 0) rfl (by decide) (by omega)) ?_
              refine xi_iload_n (pc' := 122) (x := x2) kc_57_121 rfl rfl ?_
              by_cases c25 : x2.toInt < 0
              · refine xi_ift (pc' := 131) kc_57_122 rfl (xc_lt_t (X := x2.toInt) (Y := 0) rfl (by decide) (by omega)) ?_
                refine xi_iload (pc' := 133) (x := x4) kc_57_131 rfl rfl ?_
                refine xi_istore_n (pc' := 134) (lv' := [(2, .int x4), (6, .int v21), (0, .ref 115), (1, .int x1), (3, .int x3), (4, .int x4), (5, .int x5)]) kc_57_133 rfl rfl (xm_lt ml_57 rfl) ?_
                refine xi_iload (pc' := 136) (x := v21) kc_57_134 rfl rfl ?_
                refine xi_istore_n (pc' := 137) (lv' := [(3, .int v21), (2, .int x4), (6, .int v21), (0, .ref 115), (1, .int x1), (4, .int x4), (5, .int x5)]) kc_57_136 rfl rfl (xm_lt ml_57 rfl) ?_
                obtain ⟨v26, ev26⟩ : ∃ q : Int32, x4 + 1 = q := ⟨_, rfl⟩
                have zv26 : v26.toInt = (x4.toInt + 1) := by rw [← ev26]; exact (xz_add (X := x4.toInt) (Y := 1) rfl (by decide) (by omega) (by omega)).trans (by omega)
                refine xi_iinc (pc' := 140) (x := x4) (v := v26) (lv' := [(4, .int v26), (3, .int v21), (2, .int x4), (6, .int v21), (0, .ref 115), (1, .int x1), (5, .int x5)]) kc_57_137 rfl rfl ev26 rfl (xm_lt ml_57 rfl) ?_
                refine xi_goto (pc' := 18) kc_57_140 rfl ?_
                refine xw_lv (b := [(0, .ref 115), (1, .int x1), (2, .int x4), (3, .int v21), (4, .int v26)]) (lvS_cons (lvS_cons (lvS_cons (lvS_cons (lvS_cons (lvS_nil (show ([4, 3, 2, 6, 0, 1, 5] : List Nat).Nodup by decide)) rfl) rfl) rfl) rfl) rfl) ?_
                exact i0 x1 x4 v21 v26 h (by omega) (by omega) K (by omega)
              · refine xi_iff (pc' := 125) kc_57_122 rfl (xc_lt_f (X := x2.toInt) (Y := 0) rfl (by decide) (by omega)) ?_
                refine xi_iload (pc' := 127) (x := v21) kc_57_125 rfl rfl ?_
                refine xi_iload_n (pc' := 128) (x := x3) kc_57_127 rfl rfl ?_
                by_cases c27 : x3.toInt ≤ v21.toInt
                · refine xi_cmt (pc' := 137) kc_57_128 rfl (xc_ge_t (X := v21.toInt) (Y := x3.toInt) rfl rfl (by omega)) ?_
                  obtain ⟨v28, ev28⟩ : ∃ q : Int32, x4 + 1 = q := ⟨_, rfl⟩
                  have zv28 : v28.toInt = (x4.toInt + 1) := by rw [← ev28]; exact (xz_add (X := x4.toInt) (Y := 1) rfl (by decide) (by omega) (by omega)).trans (by omega)
                  refine xi_iinc (pc' := 140) (x := x4) (v := v28) (lv' := [(4, .int v28), (6, .int v21), (0, .ref 115), (1, .int x1), (2, .int x2), (3, .int x3), (5, .int x5)]) kc_57_137 rfl rfl ev28 rfl (xm_lt ml_57 rfl) ?_
                  refine xi_goto (pc' := 18) kc_57_140 rfl ?_
                  refine xw_lv (b := [(0, .ref 115), (1, .int x1), (2, .int x2), (3, .int x3), (4, .int v28)]) (lvS_cons (lvS_cons (lvS_cons (lvS_cons (lvS_cons (lvS_nil (show ([4, 6, 0, 1, 2, 3, 5] : List Nat).Nodup by decide)) rfl) rfl) rfl) rfl) rfl) ?_
                  exact i0 x1 x2 x3 v28 h (by omega) (by omega) K (by omega)
                · refine xi_cmf (pc' := 131) kc_57_128 rfl (xc_ge_f (X := v21.toInt) (Y := x3.toInt) rfl rfl (by omega)) ?_
                  refine xi_iload (pc' := 133) (x := x4) kc_57_131 rfl rfl ?_
                  refine xi_istore_n (pc' := 134) (lv' := [(2, .int x4), (6, .int v21), (0, .ref 115), (1, .int x1), (3, .int x3), (4, .int x4), (5, .int x5)]) kc_57_133 rfl rfl (xm_lt ml_57 rfl) ?_
                  refine xi_iload (pc' := 136) (x := v21) kc_57_134 rfl rfl ?_
                  refine xi_istore_n (pc' := 137) (lv' := [(3, .int v21), (2, .int x4), (6, .int v21), (0, .ref 115), (1, .int x1), (4, .int x4), (5, .int x5)]) kc_57_136 rfl rfl (xm_lt ml_57 rfl) ?_
                  obtain ⟨v29, ev29⟩ : ∃ q : Int32, x4 + 1 = q := ⟨_, rfl⟩
                  have zv29 : v29.toInt = (x4.toInt + 1) := by rw [← ev29]; exact (xz_add (X := x4.toInt) (Y := 1) rfl (by decide) (by omega) (by omega)).trans (by omega)
                  refine xi_iinc (pc' := 140) (x := x4) (v := v29) (lv' := [(4, .int v29), (3, .int v21), (2, .int x4), (6, .int v21), (0, .ref 115), (1, .int x1), (5, .int x5)]) kc_57_137 rfl rfl ev29 rfl (xm_lt ml_57 rfl) ?_
                  refine xi_goto (pc' := 18) kc_57_140 rfl ?_
                  refine xw_lv (b := [(0, .ref 115), (1, .int x1), (2, .int x4), (3, .int v21), (4, .int v29)]) (lvS_cons (lvS_cons (lvS_cons (lvS_cons (lvS_cons (lvS_nil (show ([4, 3, 2, 6, 0, 1, 5] : List Nat).Nodup by decide)) rfl) rfl) rfl) rfl) rfl) ?_
                  exact i0 x1 x4 v21 v29 h (by omega) (by omega) K (by omega)
            · refine xi_ift (pc' := 137) kc_57_118 rfl (xc_ne_t (X := v23.toInt) (Y := 0) rfl (by decide) (by omega)) ?_
              obtain ⟨v30, ev30⟩ : ∃ q : Int32, x4 + 1 = q := ⟨_, rfl⟩
              have zv30 : v30.toInt = (x4.toInt + 1) := by rw [← ev30]; exact (xz_add (X := x4.toInt) (Y := 1) rfl (by decide) (by omega) (by omega)).trans (by omega)
              refine xi_iinc (pc' := 140) (x := x4) (v := v30) (lv' := [(4, .int v30), (6, .int v21), (0, .ref 115), (1, .int x1), (2, .int x2), (3, .int x3), (5, .int x5)]) kc_57_137 rfl rfl ev30 rfl (xm_lt ml_57 rfl) ?_
              refine xi_goto (pc' := 18) kc_57_140 rfl ?_
              refine xw_lv (b := [(0, .ref 115), (1, .int x1), (2, .int x2), (3, .int x3), (4, .int v30)]) (lvS_cons (lvS_cons (lvS_cons (lvS_cons (lvS_cons (lvS_nil (show ([4, 6, 0, 1, 2, 3, 5] : List Nat).Nodup by decide)) rfl) rfl) rfl) rfl) rfl) ?_
              exact i0 x1 x2 x3 v30 h (by omega) (by omega) K (by omega)
          · refine xi_cmf (pc' := 99) kc_57_96 rfl (xc_le_f (X := x5.toInt) (Y := v19.toInt) rfl rfl (by omega)) ?_
            refine xi_iload (pc' := 101) (x := x5) kc_57_99 rfl rfl ?_
            refine xi_goto (pc' := 108) kc_57_101 rfl ?_
            obtain ⟨v31, ev31⟩ : ∃ q : Int32, (v18 : Int32) * x5 = q := ⟨_, rfl⟩
            have rv31 := xc_rng v31
            refine xi_imul (pc' := 109) (v := v31) kc_57_108 rfl ev31 ?_
            refine xi_istore (pc' := 111) (lv' := [(6, .int v31), (0, .ref 115), (1, .int x1), (2, .int x2), (3, .int x3), (4, .int x4), (5, .int x5)]) kc_57_109 rfl rfl (xm_lt ml_57 rfl) ?_
            refine xi_aload_n (pc' := 112) (x := 115) kc_57_111 rfl rfl ?_
            refine xi_getfield (pc' := 115) (v := .ref 154) kc_57_112 rfl rfl rfl A14 rfl ?_
            refine xi_iload (pc' := 117) (x := x4) kc_57_115 rfl rfl ?_
            obtain ⟨y32, A32, hy32, ry32⟩ := xk_arr K.1 xD_154
            obtain ⟨v33, ev33, bv33, dv33⟩ := xj_get hy32 ry32 (i := x4) (by omega) (by omega)
            refine xi_iaload (pc' := 118) (v := v33) kc_57_117 rfl A32 (by decide) rfl (xi_in (by omega) (by rw [hy32]; omega)) ev33 ?_
            by_cases c34 : v33.toInt = 0
            · refine xi_iff (pc' := 121) kc_57_118 rfl (xc_ne_f (X := v33.toInt) (Y := 0) rfl (by decide) (by omega)) ?_
              refine xi_iload_n (pc' := 122) (x := x2) kc_57_121 rfl rfl ?_
              by_cases c35 : x2.toInt < 0
              · refine xi_ift (pc' := 131) kc_57_122 rfl (xc_lt_t (X := x2.toInt) (Y := 0) rfl (by decide) (by omega)) ?_
                refine xi_iload (pc' := 133) (x := x4) kc_57_131 rfl rfl ?_
                refine xi_istore_n (pc' := 134) (lv' := [(2, .int x4), (6, .int v31), (0, .ref 115), (1, .int x1), (3, .int x3), (4, .int x4), (5, .int x5)]) kc_57_133 rfl rfl (xm_lt ml_57 rfl) ?_
                refine xi_iload (pc' := 136) (x := v31) kc_57_134 rfl rfl ?_
                refine xi_istore_n (pc' := 137) (lv' := [(3, .int v31), (2, .int x4), (6, .int v31), (0, .ref 115), (1, .int x1), (4, .int x4), (5, .int x5)]) kc_57_136 rfl rfl (xm_lt ml_57 rfl) ?_
                obtain ⟨v36, ev36⟩ : ∃ q : Int32, x4 + 1 = q := ⟨_, rfl⟩
                have zv36 : v36.toInt = (x4.toInt + 1) := by rw [← ev36]; exact (xz_add (X := x4.toInt) (Y := 1) rfl (by decide) (by omega) (by omega)).trans (by omega)
                refine xi_iinc (pc' := 140) (x := x4) (v := v36) (lv' := [(4, .int v36), (3, .int v31), (2, .int x4), (6, .int v31), (0, .ref 115), (1, .int x1), (5, .int x5)]) kc_57_137 rfl rfl ev36 rfl (xm_lt ml_57 rfl) ?_
                refine xi_goto (pc' := 18) kc_57_140 rfl ?_
                refine xw_lv (b := [(0, .ref 115), (1, .int x1), (2, .int x4), (3, .int v31), (4, .int v36)]) (lvS_cons (lvS_cons (lvS_cons (lvS_cons (lvS_cons (lvS_nil (show ([4, 3, 2, 6, 0, 1, 5] : List Nat).Nodup by decide)) rfl) rfl) rfl) rfl) rfl) ?_
                exact i0 x1 x4 v31 v36 h (by omega) (by omega) K (by omega)
              · refine xi_iff (pc' := 125) kc_57_122 rfl (xc_lt_f (X := x2.toInt) (Y := 0) rfl (by decide) (by omega)) ?_
                refine xi_iload (pc' := 127) (x := v31) kc_57_125 rfl rfl ?_
                refine xi_iload_n (pc' := 128) (x := x3) kc_57_127 rfl rfl ?_
                by_cases c37 : x3.toInt ≤ v31.toInt
                · refine xi_cmt (pc' := 137) kc_57_128 rfl (xc_ge_t (X := v31.toInt) (Y := x3.toInt) rfl rfl (by omega)) ?_
                  obtain ⟨v38, ev38⟩ : ∃ q : Int32, x4 + 1 = q := ⟨_, rfl⟩
                  have zv38 : v38.toInt = (x4.toInt + 1) := by rw [← ev38]; exact (xz_add (X := x4.toInt) (Y := 1) rfl (by decide) (by omega) (by omega)).trans (by omega)
                  refine xi_iinc (pc' := 140) (x := x4) (v := v38) (lv' := [(4, .int v38), (6, .int v31), (0, .ref 115), (1, .int x1), (2, .int x2), (3, .int x3), (5, .int x5)]) kc_57_137 rfl rfl ev38 rfl (xm_lt ml_57 rfl) ?_
                  refine xi_goto (pc' := 18) kc_57_140 rfl ?_
                  refine xw_lv (b := [(0, .ref 115), (1, .int x1), (2, .int x2), (3, .int x3), (4, .int v38)]) (lvS_cons (lvS_cons (lvS_cons (lvS_cons (lvS_cons (lvS_nil (show ([4, 6, 0, 1, 2, 3, 5] : List Nat).Nodup by decide)) rfl) rfl) rfl) rfl) rfl) ?_
                  exact i0 x1 x2 x3 v38 h (by omega) (by omega) K (by omega)
                · refine xi_cmf (pc' := 131) kc_57_128 rfl (xc_ge_f (X := v31.toInt) (Y := x3.toInt) rfl rfl (by omega)) ?_
                  refine xi_iload (pc' := 133) (x := x4) kc_57_131 rfl rfl ?_
                  refine xi_istore_n (pc' := 134) (lv' := [(2, .int x4), (6, .int v31), (0, .ref 115), (1, .int x1), (3, .int x3), (4, .int x4), (5, .int x5)]) kc_57_133 rfl rfl (xm_lt ml_57 rfl) ?_
                  refine xi_iload (pc' := 136) (x := v31) kc_57_134 rfl rfl ?_
                  refine xi_istore_n (pc' := 137) (lv' := [(3, .int v31), (2, .int x4), (6, .int v31), (0, .ref 115), (1, .int x1), (4, .int x4), (5, .int x5)]) kc_57_136 rfl rfl (xm_lt ml_57 rfl) ?_
                  obtain ⟨v39, ev39⟩ : ∃ q : Int32, x4 + 1 = q := ⟨_, rfl⟩
                  have zv39 : v39.toInt = (x4.toInt + 1) := by rw [← ev39]; exact (xz_add (X := x4.toInt) (Y := 1) rfl (by decide) (by omega) (by omega)).trans (by omega)
                  refine xi_iinc (pc' := 140) (x := x4) (v := v39) (lv' := [(4, .int v39), (3, .int v31), (2, .int x4), (6, .int v31), (0, .ref 115), (1, .int x1), (5, .int x5)]) kc_57_137 rfl rfl ev39 rfl (xm_lt ml_57 rfl) ?_
                  refine xi_goto (pc' := 18) kc_57_140 rfl ?_
                  refine xw_lv (b := [(0, .ref 115), (1, .int x1), (2, .int x4), (3, .int v31), (4, .int v39)]) (lvS_cons (lvS_cons (lvS_cons (lvS_cons (lvS_cons (lvS_nil (show ([4, 3, 2, 6, 0, 1, 5] : List Nat).Nodup by decide)) rfl) rfl) rfl) rfl) rfl) ?_
                  exact i0 x1 x4 v31 v39 h (by omega) (by omega) K (by omega)
            · refine xi_ift (pc' := 137) kc_57_118 rfl (xc_ne_t (X := v33.toInt) (Y := 0) rfl (by decide) (by omega)) ?_
              obtain ⟨v40, ev40⟩ : ∃ q : Int32, x4 + 1 = q := ⟨_, rfl⟩
              have zv40 : v40.toInt = (x4.toInt + 1) := by rw [← ev40]; exact (xz_add (X := x4.toInt) (Y := 1) rfl (by decide) (by omega) (by omega)).trans (by omega)
              refine xi_iinc (pc' := 140) (x := x4) (v := v40) (lv' := [(4, .int v40), (6, .int v31), (0, .ref 115), (1, .int x1), (2, .int x2), (3, .int x3), (5, .int x5)]) kc_57_137 rfl rfl ev40 rfl (xm_lt ml_57 rfl) ?_
              refine xi_goto (pc' := 18) kc_57_140 rfl ?_
              refine xw_lv (b := [(0, .ref 115), (1, .int x1), (2, .int x2), (3, .int x3), (4, .int v40)]) (lvS_cons (lvS_cons (lvS_cons (lvS_cons (lvS_cons (lvS_nil (show ([4, 6, 0, 1, 2, 3, 5] : List Nat).Nodup by decide)) rfl) rfl) rfl) rfl) rfl) ?_
              exact i0 x1 x2 x3 v40 h (by omega) (by omega) K (by omega)
        · refine xi_cmf (pc' := 46) kc_57_43 rfl (xc_ge_f (X := x6.toInt) (Y := 64) rfl (by decide) (by omega)) ?_
          refine xi_iload (pc' := 48) (x := x5) kc_57_46 rfl rfl ?_
          refine xi_aload_n (pc' := 49) (x := 115) kc_57_48 rfl rfl ?_
          refine xi_iload (pc' := 51) (x := x6) kc_57_49 rfl rfl ?_
          refine xi_virtual (mj := 53) (as := [.int x6]) (st1 := [.int x5]) (lv0 := [(0, .ref 115), (1, .int x6)]) kc_57_51 rfl rfl rfl rfl rfl A14 (Nat.le_of_ble_eq_true rfl) (hJ _ _ _ _ (by decide)) (xm_le ml_53 rfl) rfl ?_
          refine mt_53_0 hJ hov1 hov2 (d := d + 6) (x1 := x6) K.1 (by first | omega | decide) (fun r41 hh42 br41 K43 => ?_)
          have K44 := xk_tr K K43 rfl
          obtain ⟨u45, u46, u47, u48, u49, u50, u51, u52, u53, u54, u55, u56, u57, bu45, bu46, bu47, bu48, bu49, bu50, bu51, bu52, bu53, bu54, bu55, bu56, bu57, A58⟩ := xq_115 K44.1
          have e59 : u2 = u46 := xk_eqi (q := 1) K43 rfl A14 A58 rfl rfl
          subst e59
          show xw J ov (d + 8) 57 (54, [(0, .ref 115), (1, .int x1), (2, .int x2), (3, .int x3), (4, .int x4), (5, .int x5), (6, .int x6)], [.int r41, .int x5], hh42) _
          by_cases c60 : r41.toInt = 0
          · refine xi_ift (pc' := 73) kc_57_54 rfl (xc_eq_t (X := r41.toInt) (Y := 0) rfl (by decide) (by omega)) ?_
            refine xi_iconst (pc' := 74) (v := 0) kc_57_73 rfl rfl ?_
            obtain ⟨v61, ev61⟩ : ∃ q : Int32, x5 + 0 = q := ⟨_, rfl⟩
            have zv61 : v61.toInt = x5.toInt := by rw [← ev61]; exact (xz_add (X := x5.toInt) (Y := 0) rfl (by decide) (by omega) (by omega)).trans (by omega)
            refine xi_iadd (pc' := 75) (v := v61) kc_57_74 rfl ev61 ?_
            refine xi_istore (pc' := 77) (lv' := [(5, .int v61), (0, .ref 115), (1, .int x1), (2, .int x2), (3, .int x3), (4, .int x4), (6, .int x6)]) kc_57_75 rfl rfl (xm_lt ml_57 rfl) ?_
            obtain ⟨v62, ev62⟩ : ∃ q : Int32, x6 + 1 = q := ⟨_, rfl⟩
            have zv62 : v62.toInt = (x6.toInt + 1) := by rw [← ev62]; exact (xz_add (X := x6.toInt) (Y := 1) rfl (by decide) (by omega) (by omega)).trans (by omega)
            refine xi_iinc (pc' := 80) (x := x6) (v := v62) (lv' := [(6, .int v62), (5, .int v61), (0, .ref 115), (1, .int x1), (2, .int x2), (3, .int x3), (4, .int x4)]) kc_57_77 rfl rfl ev62 rfl (xm_lt ml_57 rfl) ?_
            refine xi_goto (pc' := 37) kc_57_80 rfl ?_
            refine xw_lv (b := [(0, .ref 115), (1, .int x1), (2, .int x2), (3, .int x3), (4, .int x4), (5, .int v61), (6, .int v62)]) (lvS_cons (lvS_cons (lvS_cons (lvS_cons (lvS_cons (lvS_cons (lvS_cons (lvS_nil (show ([6, 5, 0, 1, 2, 3, 4] : List Nat).Nodup by decide)) rfl) rfl) rfl) rfl) rfl) rfl) rfl) ?_
            exact i1 x1 x2 x3 x4 v61 v62 hh42 (by omega) (by omega) (by omega) (by omega) K44 (by omega)
          · refine xi_iff (pc' := 57) kc_57_54 rfl (xc_eq_f (X := r41.toInt) (Y := 0) rfl (by decide) (by omega)) ?_
            refine xi_aload_n (pc' := 58) (x := 115) kc_57_57 rfl rfl ?_
            refine xi_iload (pc' := 60) (x := x4) kc_57_58 rfl rfl ?_
            refine xi_iload (pc' := 62) (x := x6) kc_57_60 rfl rfl ?_
            refine xi_virtual (mj := 54) (as := [.int x4, .int x6]) (st1 := [.int x5]) (lv0 := [(0, .ref 115), (1, .int x4), (2, .int x6)]) kc_57_62 rfl rfl rfl rfl rfl A58 (Nat.le_of_ble_eq_true rfl) (hJ _ _ _ _ (by decide)) (xm_le ml_54 rfl) rfl ?_
            refine xi_aload_n (pc' := 1) (x := 115) kc_54_0 rfl rfl ?_
            refine xi_getfield (pc' := 4) (v := .ref 152) kc_54_1 rfl rfl rfl A58 rfl ?_
            refine xi_iload_n (pc' := 5) (x := x4) kc_54_4 rfl rfl ?_
            obtain ⟨y63, A63, hy63, ry63⟩ := xk_arr K44.1 xD_152
            obtain ⟨v64, ev64, bv64, dv64⟩ := xj_get hy63 ry63 (i := x4) (by omega) (by omega)
            refine xi_iaload (pc' := 6) (v := v64) kc_54_5 rfl A63 (by decide) rfl (xi_in (by omega) (by rw [hy63]; omega)) ev64 ?_
            refine xi_iload_n (pc' := 7) (x := x6) kc_54_6 rfl rfl ?_
            obtain ⟨v65, ev65⟩ : ∃ q : Int32, (v64 : Int32) &&& x6 = q := ⟨_, rfl⟩
            have rv65 := xc_rng v65
            refine xi_iand (pc' := 8) (v := v65) kc_54_7 rfl ev65 ?_
            by_cases c66 : v65.toInt = 0
            · refine xi_ift (pc' := 15) kc_54_8 rfl (xc_eq_t (X := v65.toInt) (Y := 0) rfl (by decide) (by omega)) ?_
              refine xi_iconst (pc' := 16) (v := 2) kc_54_15 rfl rfl ?_
              refine xi_ireturn kc_54_16 mr_54 rfl ?_
              show xw J ov (d + 8) 57 (65, [(0, .ref 115), (1, .int x1), (2, .int x2), (3, .int x3), (4, .int x4), (5, .int x5), (6, .int x6)], [.int 2, .int x5], hh42) _
              refine xi_iconst (pc' := 66) (v := 1) kc_57_65 rfl rfl ?_
              refine xi_cmt (pc' := 73) kc_57_66 rfl rfl ?_
              refine xi_iconst (pc' := 74) (v := 0) kc_57_73 rfl rfl ?_
              obtain ⟨v67, ev67⟩ : ∃ q : Int32, x5 + 0 = q := ⟨_, rfl⟩
              have zv67 : v67.toInt = x5.toInt := by rw [← ev67]; exact (xz_add (X := x5.toInt) (Y := 0) rfl (by decide) (by omega) (by omega)).trans (by omega)
              refine xi_iadd (pc' := 75) (v := v67) kc_57_74 rfl ev67 ?_
              refine xi_istore (pc' := 77) (lv' := [(5, .int v67), (0, .ref 115), (1, .int x1), (2, .int x2), (3, .int x3), (4, .int x4), (6, .int x6)]) kc_57_75 rfl rfl (xm_lt ml_57 rfl) ?_
              obtain ⟨v68, ev68⟩ : ∃ q : Int32, x6 + 1 = q := ⟨_, rfl⟩
              have zv68 : v68.toInt = (x6.toInt + 1) := by rw [← ev68]; exact (xz_add (X := x6.toInt) (Y := 1) rfl (by decide) (by omega) (by omega)).trans (by omega)
              refine xi_iinc (pc' := 80) (x := x6) (v := v68) (lv' := [(6, .int v68), (5, .int v67), (0, .ref 115), (1, .int x1), (2, .int x2), (3, .int x3), (4, .int x4)]) kc_57_77 rfl rfl ev68 rfl (xm_lt ml_57 rfl) ?_
              refine xi_goto (pc' := 37) kc_57_80 rfl ?_
              refine xw_lv (b := [(0, .ref 115), (1, .int x1), (2, .int x2), (3, .int x3), (4, .int x4), (5, .int v67), (6, .int v68)]) (lvS_cons (lvS_cons (lvS_cons (lvS_cons (lvS_cons (lvS_cons (lvS_cons (lvS_nil (show ([6, 5, 0, 1, 2, 3, 4] : List Nat).Nodup by decide)) rfl) rfl) rfl) rfl) rfl) rfl) rfl) ?_
              exact i1 x1 x2 x3 x4 v67 v68 hh42 (by omega) (by omega) (by omega) (by omega) K44 (by omega)
            · refine xi_iff (pc' := 11) kc_54_8 rfl (xc_eq_f (X := v65.toInt) (Y := 0) rfl (by decide) (by omega)) ?_
              refine xi_iconst (pc' := 12) (v := 1) kc_54_11 rfl rfl ?_
              refine xi_goto (pc' := 16) kc_54_12 rfl ?_
              refine xi_ireturn kc_54_16 mr_54 rfl ?_
              show xw J ov (d + 8) 57 (65, [(0, .ref 115), (1, .int x1), (2, .int x2), (3, .int x3), (4, .int x4), (5, .int x5), (6, .int x6)], [.int 1, .int x5], hh42) _
              refine xi_iconst (pc' := 66) (v := 1) kc_57_65 rfl rfl ?_
              refine xi_cmf (pc' := 69) kc_57_66 rfl rfl ?_
              refine xi_iconst (pc' := 70) (v := 1) kc_57_69 rfl rfl ?_
              refine xi_goto (pc' := 74) kc_57_70 rfl ?_
              obtain ⟨v69, ev69⟩ : ∃ q : Int32, (x5 : Int32) + 1 = q := ⟨_, rfl⟩
              have rv69 := xc_rng v69
              refine xi_iadd (pc' := 75) (v := v69) kc_57_74 rfl ev69 ?_
              refine xi_istore (pc' := 77) (lv' := [(5, .int v69), (0, .ref 115), (1, .int x1), (2, .int x2), (3, .int x3), (4, .int x4), (6, .int x6)]) kc_57_75 rfl rfl (xm_lt ml_57 rfl) ?_
              obtain ⟨v70, ev70⟩ : ∃ q : Int32, x6 + 1 = q := ⟨_, rfl⟩
              have zv70 : v70.toInt = (x6.toInt + 1) := by rw [← ev70]; exact (xz_add (X := x6.toInt) (Y := 1) rfl (by decide) (by omega) (by omega)).trans (by omega)
              refine xi_iinc (pc' := 80) (x := x6) (v := v70) (lv' := [(6, .int v70), (5, .int v69), (0, .ref 115), (1, .int x1), (2, .int x2), (3, .int x3), (4, .int x4)]) kc_57_77 rfl rfl ev70 rfl (xm_lt ml_57 rfl) ?_
              refine xi_goto (pc' := 37) kc_57_80 rfl ?_
              refine xw_lv (b := [(0, .ref 115), (1, .int x1), (2, .int x2), (3, .int x3), (4, .int x4), (5, .int v69), (6, .int v70)]) (lvS_cons (lvS_cons (lvS_cons (lvS_cons (lvS_cons (lvS_cons (lvS_cons (lvS_nil (show ([6, 5, 0, 1, 2, 3, 4] : List Nat).Nodup by decide)) rfl) rfl) rfl) rfl) rfl) rfl) rfl) ?_
              exact i1 x1 x2 x3 x4 v69 v70 hh42 (by omega) (by omega) (by omega) (by omega) K44 (by omega)
      · refine xi_cmf (pc' := 10) kc_42_7 rfl (xc_ge_f (X := u5.toInt) (Y := 6) rfl (by decide) (by omega)) ?_
        refine xi_aload_n (pc' := 11) (x := 115) kc_42_10 rfl rfl ?_
        refine xi_getfield (pc' := 14) (v := .int u5) kc_42_11 rfl rfl rfl A14 rfl ?_
        refine xi_goto (pc' := 19) kc_42_14 rfl ?_
        obtain ⟨v71, ev71⟩ : ∃ q : Int32, (1 : Int32) <<< (u5 &&& 31) = q := ⟨_, rfl⟩
        have rv71 := xc_rng v71
        have bv71 : 1 ≤ v71.toInt ∧ v71.toInt ≤ 64 := by rw [← ev71]; exact xj_shl6 (by omega) (by omega)
        refine xi_ishl (pc' := 20) (v := v71) kc_42_19 rfl ev71 ?_
        refine xi_ireturn kc_42_20 mr_42 rfl ?_
        show xw J ov (d + 8) 57 (43, [(0, .ref 115), (1, .int x1), (2, .int x2), (3, .int x3), (4, .int x4), (5, .int x5), (6, .int x6)], [.int v71, .int x6], h) _
        by_cases c72 : v71.toInt ≤ x6.toInt
        · refine xi_cmt (pc' := 83) kc_57_43 rfl (xc_ge_t (X := x6.toInt) (Y := v71.toInt) rfl rfl (by omega)) ?_
          refine xi_aload_n (pc' := 84) (x := 115) kc_57_83 rfl rfl ?_
          refine xi_getfield (pc' := 87) (v := .ref 153) kc_57_84 rfl rfl rfl A14 rfl ?_
          refine xi_iload (pc' := 89) (x := x4) kc_57_87 rfl rfl ?_
          obtain ⟨y73, A73, hy73, ry73⟩ := xk_arr K.1 xD_153
          obtain ⟨v74, ev74, bv74, dv74⟩ := xj_get hy73 ry73 (i := x4) (by omega) (by omega)
          refine xi_iaload (pc' := 90) (v := v74) kc_57_89 rfl A73 (by decide) rfl (xi_in (by omega) (by rw [hy73]; omega)) ev74 ?_
          refine xi_iload (pc' := 92) (x := x5) kc_57_90 rfl rfl ?_
          refine xi_iload_n (pc' := 93) (x := x1) kc_57_92 rfl rfl ?_
          refine xi_iload (pc' := 95) (x := x5) kc_57_93 rfl rfl ?_
          obtain ⟨v75, ev75⟩ : ∃ q : Int32, (x1 : Int32) - x5 = q := ⟨_, rfl⟩
          have rv75 := xc_rng v75
          refine xi_isub (pc' := 96) (v := v75) kc_57_95 rfl ev75 ?_
          by_cases c76 : x5.toInt ≤ v75.toInt
          · refine xi_cmt (pc' := 104) kc_57_96 rfl (xc_le_t (X := x5.toInt) (Y := v75.toInt) rfl rfl (by omega)) ?_
            refine xi_iload_n (pc' := 105) (x := x1) kc_57_104 rfl rfl ?_
            refine xi_iload (pc' := 107) (x := x5) kc_57_105 rfl rfl ?_
            refine xi_isub (pc' := 108) (v := v75) kc_57_107 rfl ev75 ?_
            obtain ⟨v77, ev77⟩ : ∃ q : Int32, (v74 : Int32) * v75 = q := ⟨_, rfl⟩
            have rv77 := xc_rng v77
            refine xi_imul (pc' := 109) (v := v77) kc_57_108 rfl ev77 ?_
            refine xi_istore (pc' := 111) (lv' := [(6, .int v77), (0, .ref 115), (1, .int x1), (2, .int x2), (3, .int x3), (4, .int x4), (5, .int x5)]) kc_57_109 rfl rfl (xm_lt ml_57 rfl) ?_
            refine xi_aload_n (pc' := 112) (x := 115) kc_57_111 rfl rfl ?_
            refine xi_getfield (pc' := 115) (v := .ref 154) kc_57_112 rfl rfl rfl A14 rfl ?_
            refine xi_iload (pc' := 117) (x := x4) kc_57_115 rfl rfl ?_
            obtain ⟨y78, A78, hy78, ry78⟩ := xk_arr K.1 xD_154
            obtain ⟨v79, ev79, bv79, dv79⟩ := xj_get hy78 ry78 (i := x4) (by omega) (by omega)
            refine xi_iaload (pc' := 118) (v := v79) kc_57_117 rfl A78 (by decide) rfl (xi_in (by omega) (by rw [hy78]; omega)) ev79 ?_
            by_cases c80 : v79.toInt = 0
            · refine xi_iff (pc' := 121) kc_57_118 rfl (xc_ne_f (X := v79.toInt) (Y := 0) rfl (by decide) (by omega)) ?_
              refine xi_iload_n (pc' := 122) (x := x2) kc_57_121 rfl rfl ?_
              by_cases c81 : x2.toInt < 0
              · refine xi_ift (pc' := 131) kc_57_122 rfl (xc_lt_t (X := x2.toInt) (Y := 0) rfl (by decide) (by omega)) ?_
                refine xi_iload (pc' := 133) (x := x4) kc_57_131 rfl rfl ?_
                refine xi_istore_n (pc' := 134) (lv' := [(2, .int x4), (6, .int v77), (0, .ref 115), (1, .int x1), (3, .int x3), (4, .int x4), (5, .int x5)]) kc_57_133 rfl rfl (xm_lt ml_57 rfl) ?_
                refine xi_iload (pc' := 136) (x := v77) kc_57_134 rfl rfl ?_
                refine xi_istore_n (pc' := 137) (lv' := [(3, .int v77), (2, .int x4), (6, .int v77), (0, .ref 115), (1, .int x1), (4, .int x4), (5, .int x5)]) kc_57_136 rfl rfl (xm_lt ml_57 rfl) ?_
                obtain ⟨v82, ev82⟩ : ∃ q : Int32, x4 + 1 = q := ⟨_, rfl⟩
                have zv82 : v82.toInt = (x4.toInt + 1) := by rw [← ev82]; exact (xz_add (X := x4.toInt) (Y := 1) rfl (by decide) (by omega) (by omega)).trans (by omega)
                refine xi_iinc (pc' := 140) (x := x4) (v := v82) (lv' := [(4, .int v82), (3, .int v77), (2, .int x4), (6, .int v77), (0, .ref 115), (1, .int x1), (5, .int x5)]) kc_57_137 rfl rfl ev82 rfl (xm_lt ml_57 rfl) ?_
                refine xi_goto (pc' := 18) kc_57_140 rfl ?_
                refine xw_lv (b := [(0, .ref 115), (1, .int x1), (2, .int x4), (3, .int v77), (4, .int v82)]) (lvS_cons (lvS_cons (lvS_cons (lvS_cons (lvS_cons (lvS_nil (show ([4, 3, 2, 6, 0, 1, 5] : List Nat).Nodup by decide)) rfl) rfl) rfl) rfl) rfl) ?_
                exact i0 x1 x4 v77 v82 h (by omega) (by omega) K (by omega)
              · refine xi_iff (pc' := 125) kc_57_122 rfl (xc_lt_f (X := x2.toInt) (Y := 0) rfl (by decide) (by omega)) ?_
                refine xi_iload (pc' := 127) (x := v77) kc_57_125 rfl rfl ?_
                refine xi_iload_n (pc' := 128) (x := x3) kc_57_127 rfl rfl ?_
                by_cases c83 : x3.toInt ≤ v77.toInt
                · refine xi_cmt (pc' := 137) kc_57_128 rfl (xc_ge_t (X := v77.toInt) (Y := x3.toInt) rfl rfl (by omega)) ?_
                  obtain ⟨v84, ev84⟩ : ∃ q : Int32, x4 + 1 = q := ⟨_, rfl⟩
                  have zv84 : v84.toInt = (x4.toInt + 1) := by rw [← ev84]; exact (xz_add (X := x4.toInt) (Y := 1) rfl (by decide) (by omega) (by omega)).trans (by omega)
                  refine xi_iinc (pc' := 140) (x := x4) (v := v84) (lv' := [(4, .int v84), (6, .int v77), (0, .ref 115), (1, .int x1), (2, .int x2), (3, .int x3), (5, .int x5)]) kc_57_137 rfl rfl ev84 rfl (xm_lt ml_57 rfl) ?_
                  refine xi_goto (pc' := 18) kc_57_140 rfl ?_
                  refine xw_lv (b := [(0, .ref 115), (1, .int x1), (2, .int x2), (3, .int x3), (4, .int v84)]) (lvS_cons (lvS_cons (lvS_cons (lvS_cons (lvS_cons (lvS_nil (show ([4, 6, 0, 1, 2, 3, 5] : List Nat).Nodup by decide)) rfl) rfl) rfl) rfl) rfl) ?_
                  exact i0 x1 x2 x3 v84 h (by omega) (by omega) K (by omega)
                · refine xi_cmf (pc' := 131) kc_57_128 rfl (xc_ge_f (X := v77.toInt) (Y := x3.toInt) rfl rfl (by omega)) ?_
                  refine xi_iload (pc' := 133) (x := x4) kc_57_131 rfl rfl ?_
                  refine xi_istore_n (pc' := 134) (lv' := [(2, .int x4), (6, .int v77), (0, .ref 115), (1, .int x1), (3, .int x3), (4, .int x4), (5, .int x5)]) kc_57_133 rfl rfl (xm_lt ml_57 rfl) ?_
                  refine xi_iload (pc' := 136) (x := v77) kc_57_134 rfl rfl ?_
                  refine xi_istore_n (pc' := 137) (lv' := [(3, .int v77), (2, .int x4), (6, .int v77), (0, .ref 115), (1, .int x1), (4, .int x4), (5, .int x5)]) kc_57_136 rfl rfl (xm_lt ml_57 rfl) ?_
                  obtain ⟨v85, ev85⟩ : ∃ q : Int32, x4 + 1 = q := ⟨_, rfl⟩
                  have zv85 : v85.toInt = (x4.toInt + 1) := by rw [← ev85]; exact (xz_add (X := x4.toInt) (Y := 1) rfl (by decide) (by omega) (by omega)).trans (by omega)
                  refine xi_iinc (pc' := 140) (x := x4) (v := v85) (lv' := [(4, .int v85), (3, .int v77), (2, .int x4), (6, .int v77), (0, .ref 115), (1, .int x1), (5, .int x5)]) kc_57_137 rfl rfl ev85 rfl (xm_lt ml_57 rfl) ?_
                  refine xi_goto (pc' := 18) kc_57_140 rfl ?_
                  refine xw_lv (b := [(0, .ref 115), (1, .int x1), (2, .int x4), (3, .int v77), (4, .int v85)]) (lvS_cons (lvS_cons (lvS_cons (lvS_cons (lvS_cons (lvS_nil (show ([4, 3, 2, 6, 0, 1, 5] : List Nat).Nodup by decide)) rfl) rfl) rfl) rfl) rfl) ?_
                  exact i0 x1 x4 v77 v85 h (by omega) (by omega) K (by omega)
            · refine xi_ift (pc' := 137) kc_57_118 rfl (xc_ne_t (X := v79.toInt) (Y := 0) rfl (by decide) (by omega)) ?_
              obtain ⟨v86, ev86⟩ : ∃ q : Int32, x4 + 1 = q := ⟨_, rfl⟩
              have zv86 : v86.toInt = (x4.toInt + 1) := by rw [← ev86]; exact (xz_add (X := x4.toInt) (Y := 1) rfl (by decide) (by omega) (by omega)).trans (by omega)
              refine xi_iinc (pc' := 140) (x := x4) (v := v86) (lv' := [(4, .int v86), (6, .int v77), (0, .ref 115), (1, .int x1), (2, .int x2), (3, .int x3), (5, .int x5)]) kc_57_137 rfl rfl ev86 rfl (xm_lt ml_57 rfl) ?_
              refine xi_goto (pc' := 18) kc_57_140 rfl ?_
              refine xw_lv (b := [(0, .ref 115), (1, .int x1), (2, .int x2), (3, .int x3), (4, .int v86)]) (lvS_cons (lvS_cons (lvS_cons (lvS_cons (lvS_cons (lvS_nil (show ([4, 6, 0, 1, 2, 3, 5] : List Nat).Nodup by decide)) rfl) rfl) rfl) rfl) rfl) ?_
              exact i0 x1 x2 x3 v86 h (by omega) (by omega) K (by omega)
          · refine xi_cmf (pc' := 99) kc_57_96 rfl (xc_le_f (X := x5.toInt) (Y := v75.toInt) rfl rfl (by omega)) ?_
            refine xi_iload (pc' := 101) (x := x5) kc_57_99 rfl rfl ?_
            refine xi_goto (pc' := 108) kc_57_101 rfl ?_
            obtain ⟨v87, ev87⟩ : ∃ q : Int32, (v74 : Int32) * x5 = q := ⟨_, rfl⟩
            have rv87 := xc_rng v87
            refine xi_imul (pc' := 109) (v := v87) kc_57_108 rfl ev87 ?_
            refine xi_istore (pc' := 111) (lv' := [(6, .int v87), (0, .ref 115), (1, .int x1), (2, .int x2), (3, .int x3), (4, .int x4), (5, .int x5)]) kc_57_109 rfl rfl (xm_lt ml_57 rfl) ?_
            refine xi_aload_n (pc' := 112) (x := 115) kc_57_111 rfl rfl ?_
            refine xi_getfield (pc' := 115) (v := .ref 154) kc_57_112 rfl rfl rfl A14 rfl ?_
            refine xi_iload (pc' := 117) (x := x4) kc_57_115 rfl rfl ?_
            obtain ⟨y88, A88, hy88, ry88⟩ := xk_arr K.1 xD_154
            obtain ⟨v89, ev89, bv89, dv89⟩ := xj_get hy88 ry88 (i := x4) (by omega) (by omega)
            refine xi_iaload (pc' := 118) (v := v89) kc_57_117 rfl A88 (by decide) rfl (xi_in (by omega) (by rw [hy88]; omega)) ev89 ?_
            by_cases c90 : v89.toInt = 0
            · refine xi_iff (pc' := 121) kc_57_118 rfl (xc_ne_f (X := v89.toInt) (Y := 0) rfl (by decide) (by omega)) ?_
              refine xi_iload_n (pc' := 122) (x := x2) kc_57_121 rfl rfl ?_
              by_cases c91 : x2.toInt < 0
              · refine xi_ift (pc' := 131) kc_57_122 rfl (xc_lt_t (X := x2.toInt) (Y := 0) rfl (by decide) (by omega)) ?_
                refine xi_iload (pc' := 133) (x := x4) kc_57_131 rfl rfl ?_
                refine xi_istore_n (pc' := 134) (lv' := [(2, .int x4), (6, .int v87), (0, .ref 115), (1, .int x1), (3, .int x3), (4, .int x4), (5, .int x5)]) kc_57_133 rfl rfl (xm_lt ml_57 rfl) ?_
                refine xi_iload (pc' := 136) (x := v87) kc_57_134 rfl rfl ?_
                refine xi_istore_n (pc' := 137) (lv' := [(3, .int v87), (2, .int x4), (6, .int v87), (0, .ref 115), (1, .int x1), (4, .int x4), (5, .int x5)]) kc_57_136 rfl rfl (xm_lt ml_57 rfl) ?_
                obtain ⟨v92, ev92⟩ : ∃ q : Int32, x4 + 1 = q := ⟨_, rfl⟩
                have zv92 : v92.toInt = (x4.toInt + 1) := by rw [← ev92]; exact (xz_add (X := x4.toInt) (Y := 1) rfl (by decide) (by omega) (by omega)).trans (by omega)
                refine xi_iinc (pc' := 140) (x := x4) (v := v92) (lv' := [(4, .int v92), (3, .int v87), (2, .int x4), (6, .int v87), (0, .ref 115), (1, .int x1), (5, .int x5)]) kc_57_137 rfl rfl ev92 rfl (xm_lt ml_57 rfl) ?_
                refine xi_goto (pc' := 18) kc_57_140 rfl ?_
                refine xw_lv (b := [(0, .ref 115), (1, .int x1), (2, .int x4), (3, .int v87), (4, .int v92)]) (lvS_cons (lvS_cons (lvS_cons (lvS_cons (lvS_cons (lvS_nil (show ([4, 3, 2, 6, 0, 1, 5] : List Nat).Nodup by decide)) rfl) rfl) rfl) rfl) rfl) ?_
                exact i0 x1 x4 v87 v92 h (by omega) (by omega) K (by omega)
              · refine xi_iff (pc' := 125) kc_57_122 rfl (xc_lt_f (X := x2.toInt) (Y := 0) rfl (by decide) (by omega)) ?_
                refine xi_iload (pc' := 127) (x := v87) kc_57_125 rfl rfl ?_
                refine xi_iload_n (pc' := 128) (x := x3) kc_57_127 rfl rfl ?_
                by_cases c93 : x3.toInt ≤ v87.toInt
                · refine xi_cmt (pc' := 137) kc_57_128 rfl (xc_ge_t (X := v87.toInt) (Y := x3.toInt) rfl rfl (by omega)) ?_
                  obtain ⟨v94, ev94⟩ : ∃ q : Int32, x4 + 1 = q := ⟨_, rfl⟩
                  have zv94 : v94.toInt = (x4.toInt + 1) := by rw [← ev94]; exact (xz_add (X := x4.toInt) (Y := 1) rfl (by decide) (by omega) (by omega)).trans (by omega)
                  refine xi_iinc (pc' := 140) (x := x4) (v := v94) (lv' := [(4, .int v94), (6, .int v87), (0, .ref 115), (1, .int x1), (2, .int x2), (3, .int x3), (5, .int x5)]) kc_57_137 rfl rfl ev94 rfl (xm_lt ml_57 rfl) ?_
                  refine xi_goto (pc' := 18) kc_57_140 rfl ?_
                  refine xw_lv (b := [(0, .ref 115), (1, .int x1), (2, .int x2), (3, .int x3), (4, .int v94)]) (lvS_cons (lvS_cons (lvS_cons (lvS_cons (lvS_cons (lvS_nil (show ([4, 6, 0, 1, 2, 3, 5] : List Nat).Nodup by decide)) rfl) rfl) rfl) rfl) rfl) ?_
                  exact i0 x1 x2 x3 v94 h (by omega) (by omega) K (by omega)
                · refine xi_cmf (pc' := 131) kc_57_128 rfl (xc_ge_f (X := v87.toInt) (Y := x3.toInt) rfl rfl (by omega)) ?_
                  refine xi_iload (pc' := 133) (x := x4) kc_57_131 rfl rfl ?_
                  refine xi_istore_n (pc' := 134) (lv' := [(2, .int x4), (6, .int v87), (0, .ref 115), (1, .int x1), (3, .int x3), (4, .int x4), (5, .int x5)]) kc_57_133 rfl rfl (xm_lt ml_57 rfl) ?_
                  refine xi_iload (pc' := 136) (x := v87) kc_57_134 rfl rfl ?_
                  refine xi_istore_n (pc' := 137) (lv' := [(3, .int v87), (2, .int x4), (6, .int v87), (0, .ref 115), (1, .int x1), (4, .int x4), (5, .int x5)]) kc_57_136 rfl rfl (xm_lt ml_57 rfl) ?_
                  obtain ⟨v95, ev95⟩ : ∃ q : Int32, x4 + 1 = q := ⟨_, rfl⟩
                  have zv95 : v95.toInt = (x4.toInt + 1) := by rw [← ev95]; exact (xz_add (X := x4.toInt) (Y := 1) rfl (by decide) (by omega) (by omega)).trans (by omega)
                  refine xi_iinc (pc' := 140) (x := x4) (v := v95) (lv' := [(4, .int v95), (3, .int v87), (2, .int x4), (6, .int v87), (0, .ref 115), (1, .int x1), (5, .int x5)]) kc_57_137 rfl rfl ev95 rfl (xm_lt ml_57 rfl) ?_
                  refine xi_goto (pc' := 18) kc_57_140 rfl ?_
                  refine xw_lv (b := [(0, .ref 115), (1, .int x1), (2, .int x4), (3, .int v87), (4, .int v95)]) (lvS_cons (lvS_cons (lvS_cons (lvS_cons (lvS_cons (lvS_nil (show ([4, 3, 2, 6, 0, 1, 5] : List Nat).Nodup by decide)) rfl) rfl) rfl) rfl) rfl) ?_
                  exact i0 x1 x4 v87 v95 h (by omega) (by omega) K (by omega)
            · refine xi_ift (pc' := 137) kc_57_118 rfl (xc_ne_t (X := v89.toInt) (Y := 0) rfl (by decide) (by omega)) ?_
              obtain ⟨v96, ev96⟩ : ∃ q : Int32, x4 + 1 = q := ⟨_, rfl⟩
              have zv96 : v96.toInt = (x4.toInt + 1) := by rw [← ev96]; exact (xz_add (X := x4.toInt) (Y := 1) rfl (by decide) (by omega) (by omega)).trans (by omega)
              refine xi_iinc (pc' := 140) (x := x4) (v := v96) (lv' := [(4, .int v96), (6, .int v87), (0, .ref 115), (1, .int x1), (2, .int x2), (3, .int x3), (5, .int x5)]) kc_57_137 rfl rfl ev96 rfl (xm_lt ml_57 rfl) ?_
              refine xi_goto (pc' := 18) kc_57_140 rfl ?_
              refine xw_lv (b := [(0, .ref 115), (1, .int x1), (2, .int x2), (3, .int x3), (4, .int v96)]) (lvS_cons (lvS_cons (lvS_cons (lvS_cons (lvS_cons (lvS_nil (show ([4, 6, 0, 1, 2, 3, 5] : List Nat).Nodup by decide)) rfl) rfl) rfl) rfl) rfl) ?_
              exact i0 x1 x2 x3 v96 h (by omega) (by omega) K (by omega)
        · refine xi_cmf (pc' := 46) kc_57_43 rfl (xc_ge_f (X := x6.toInt) (Y := v71.toInt) rfl rfl (by omega)) ?_
          refine xi_iload (pc' := 48) (x := x5) kc_57_46 rfl rfl ?_
          refine xi_aload_n (pc' := 49) (x := 115) kc_57_48 rfl rfl ?_
          refine xi_iload (pc' := 51) (x := x6) kc_57_49 rfl rfl ?_
          refine xi_virtual (mj := 53) (as := [.int x6]) (st1 := [.int x5]) (lv0 := [(0, .ref 115), (1, .int x6)]) kc_57_51 rfl rfl rfl rfl rfl A14 (Nat.le_of_ble_eq_true rfl) (hJ _ _ _ _ (by decide)) (xm_le ml_53 rfl) rfl ?_
          refine mt_53_0 hJ hov1 hov2 (d := d + 6) (x1 := x6) K.1 (by first | omega | decide) (fun r97 hh98 br97 K99 => ?_)
          have K100 := xk_tr K K99 rfl
          obtain ⟨u101, u102, u103, u104, u105, u106, u107, u108, u109, u110, u111, u112, u113, bu101, bu102, bu103, bu104, bu105, bu106, bu107, bu108, bu109, bu110, bu111, bu112, bu113, A114⟩ := xq_115 K100.1
          have e115 : u2 = u102 := xk_eqi (q := 1) K99 rfl A14 A114 rfl rfl
          subst e115
          show xw J ov (d + 8) 57 (54, [(0, .ref 115), (1, .int x1), (2, .int x2), (3, .int x3), (4, .int x4), (5, .int x5), (6, .int x6)], [.int r97, .int x5], hh98) _
          by_cases c116 : r97.toInt = 0
          · refine xi_ift (pc' := 73) kc_57_54 rfl (xc_eq_t (X := r97.toInt) (Y := 0) rfl (by decide) (by omega)) ?_
            refine xi_iconst (pc' := 74) (v := 0) kc_57_73 rfl rfl ?_
            obtain ⟨v117, ev117⟩ : ∃ q : Int32, x5 + 0 = q := ⟨_, rfl⟩
            have zv117 : v117.toInt = x5.toInt := by rw [← ev117]; exact (xz_add (X := x5.toInt) (Y := 0) rfl (by decide) (by omega) (by omega)).trans (by omega)
            refine xi_iadd (pc' := 75) (v := v117) kc_57_74 rfl ev117 ?_
            refine xi_istore (pc' := 77) (lv' := [(5, .int v117), (0, .ref 115), (1, .int x1), (2, .int x2), (3, .int x3), (4, .int x4), (6, .int x6)]) kc_57_75 rfl rfl (xm_lt ml_57 rfl) ?_
            obtain ⟨v118, ev118⟩ : ∃ q : Int32, x6 + 1 = q := ⟨_, rfl⟩
            have zv118 : v118.toInt = (x6.toInt + 1) := by rw [← ev118]; exact (xz_add (X := x6.toInt) (Y := 1) rfl (by decide) (by omega) (by omega)).trans (by omega)
            refine xi_iinc (pc' := 80) (x := x6) (v := v118) (lv' := [(6, .int v118), (5, .int v117), (0, .ref 115), (1, .int x1), (2, .int x2), (3, .int x3), (4, .int x4)]) kc_57_77 rfl rfl ev118 rfl (xm_lt ml_57 rfl) ?_
            refine xi_goto (pc' := 37) kc_57_80 rfl ?_
            refine xw_lv (b := [(0, .ref 115), (1, .int x1), (2, .int x2), (3, .int x3), (4, .int x4), (5, .int v117), (6, .int v118)]) (lvS_cons (lvS_cons (lvS_cons (lvS_cons (lvS_cons (lvS_cons (lvS_cons (lvS_nil (show ([6, 5, 0, 1, 2, 3, 4] : List Nat).Nodup by decide)) rfl) rfl) rfl) rfl) rfl) rfl) rfl) ?_
            exact i1 x1 x2 x3 x4 v117 v118 hh98 (by omega) (by omega) (by omega) (by omega) K100 (by omega)
          · refine xi_iff (pc' := 57) kc_57_54 rfl (xc_eq_f (X := r97.toInt) (Y := 0) rfl (by decide) (by omega)) ?_
            refine xi_aload_n (pc' := 58) (x := 115) kc_57_57 rfl rfl ?_
            refine xi_iload (pc' := 60) (x := x4) kc_57_58 rfl rfl ?_
            refine xi_iload (pc' := 62) (x := x6) kc_57_60 rfl rfl ?_
            refine xi_virtual (mj := 54) (as := [.int x4, .int x6]) (st1 := [.int x5]) (lv0 := [(0, .ref 115), (1, .int x4), (2, .int x6)]) kc_57_62 rfl rfl rfl rfl rfl A114 (Nat.le_of_ble_eq_true rfl) (hJ _ _ _ _ (by decide)) (xm_le ml_54 rfl) rfl ?_
            refine xi_aload_n (pc' := 1) (x := 115) kc_54_0 rfl rfl ?_
            refine xi_getfield (pc' := 4) (v := .ref 152) kc_54_1 rfl rfl rfl A114 rfl ?_
            refine xi_iload_n (pc' := 5) (x := x4) kc_54_4 rfl rfl ?_
            obtain ⟨y119, A119, hy119, ry119⟩ := xk_arr K100.1 xD_152
            obtain ⟨v120, ev120, bv120, dv120⟩ := xj_get hy119 ry119 (i := x4) (by omega) (by omega)
            refine xi_iaload (pc' := 6) (v := v120) kc_54_5 rfl A119 (by decide) rfl (xi_in (by omega) (by rw [hy119]; omega)) ev120 ?_
            refine xi_iload_n (pc' := 7) (x := x6) kc_54_6 rfl rfl ?_
            obtain ⟨v121, ev121⟩ : ∃ q : Int32, (v120 : Int32) &&& x6 = q := ⟨_, rfl⟩
            have rv121 := xc_rng v121
            refine xi_iand (pc' := 8) (v := v121) kc_54_7 rfl ev121 ?_
            by_cases c122 : v121.toInt = 0
            · refine xi_ift (pc' := 15) kc_54_8 rfl (xc_eq_t (X := v121.toInt) (Y := 0) rfl (by decide) (by omega)) ?_
              refine xi_iconst (pc' := 16) (v := 2) kc_54_15 rfl rfl ?_
              refine xi_ireturn kc_54_16 mr_54 rfl ?_
              show xw J ov (d + 8) 57 (65, [(0, .ref 115), (1, .int x1), (2, .int x2), (3, .int x3), (4, .int x4), (5, .int x5), (6, .int x6)], [.int 2, .int x5], hh98) _
              refine xi_iconst (pc' := 66) (v := 1) kc_57_65 rfl rfl ?_
              refine xi_cmt (pc' := 73) kc_57_66 rfl rfl ?_
              refine xi_iconst (pc' := 74) (v := 0) kc_57_73 rfl rfl ?_
              obtain ⟨v123, ev123⟩ : ∃ q : Int32, x5 + 0 = q := ⟨_, rfl⟩
              have zv123 : v123.toInt = x5.toInt := by rw [← ev123]; exact (xz_add (X := x5.toInt) (Y := 0) rfl (by decide) (by omega) (by omega)).trans (by omega)
              refine xi_iadd (pc' := 75) (v := v123) kc_57_74 rfl ev123 ?_
              refine xi_istore (pc' := 77) (lv' := [(5, .int v123), (0, .ref 115), (1, .int x1), (2, .int x2), (3, .int x3), (4, .int x4), (6, .int x6)]) kc_57_75 rfl rfl (xm_lt ml_57 rfl) ?_
              obtain ⟨v124, ev124⟩ : ∃ q : Int32, x6 + 1 = q := ⟨_, rfl⟩
              have zv124 : v124.toInt = (x6.toInt + 1) := by rw [← ev124]; exact (xz_add (X := x6.toInt) (Y := 1) rfl (by decide) (by omega) (by omega)).trans (by omega)
              refine xi_iinc (pc' := 80) (x := x6) (v := v124) (lv' := [(6, .int v124), (5, .int v123), (0, .ref 115), (1, .int x1), (2, .int x2), (3, .int x3), (4, .int x4)]) kc_57_77 rfl rfl ev124 rfl (xm_lt ml_57 rfl) ?_
              refine xi_goto (pc' := 37) kc_57_80 rfl ?_
              refine xw_lv (b := [(0, .ref 115), (1, .int x1), (2, .int x2), (3, .int x3), (4, .int x4), (5, .int v123), (6, .int v124)]) (lvS_cons (lvS_cons (lvS_cons (lvS_cons (lvS_cons (lvS_cons (lvS_cons (lvS_nil (show ([6, 5, 0, 1, 2, 3, 4] : List Nat).Nodup by decide)) rfl) rfl) rfl) rfl) rfl) rfl) rfl) ?_
              exact i1 x1 x2 x3 x4 v123 v124 hh98 (by omega) (by omega) (by omega) (by omega) K100 (by omega)
            · refine xi_iff (pc' := 11) kc_54_8 rfl (xc_eq_f (X := v121.toInt) (Y := 0) rfl (by decide) (by omega)) ?_
              refine xi_iconst (pc' := 12) (v := 1) kc_54_11 rfl rfl ?_
              refine xi_goto (pc' := 16) kc_54_12 rfl ?_
              refine xi_ireturn kc_54_16 mr_54 rfl ?_
              show xw J ov (d + 8) 57 (65, [(0, .ref 115), (1, .int x1), (2, .int x2), (3, .int x3), (4, .int x4), (5, .int x5), (6, .int x6)], [.int 1, .int x5], hh98) _
              refine xi_iconst (pc' := 66) (v := 1) kc_57_65 rfl rfl ?_
              refine xi_cmf (pc' := 69) kc_57_66 rfl rfl ?_
              refine xi_iconst (pc' := 70) (v := 1) kc_57_69 rfl rfl ?_
              refine xi_goto (pc' := 74) kc_57_70 rfl ?_
              obtain ⟨v125, ev125⟩ : ∃ q : Int32, (x5 : Int32) + 1 = q := ⟨_, rfl⟩
              have rv125 := xc_rng v125
              refine xi_iadd (pc' := 75) (v := v125) kc_57_74 rfl ev125 ?_
              refine xi_istore (pc' := 77) (lv' := [(5, .int v125), (0, .ref 115), (1, .int x1), (2, .int x2), (3, .int x3), (4, .int x4), (6, .int x6)]) kc_57_75 rfl rfl (xm_lt ml_57 rfl) ?_
              obtain ⟨v126, ev126⟩ : ∃ q : Int32, x6 + 1 = q := ⟨_, rfl⟩
              have zv126 : v126.toInt = (x6.toInt + 1) := by rw [← ev126]; exact (xz_add (X := x6.toInt) (Y := 1) rfl (by decide) (by omega) (by omega)).trans (by omega)
              refine xi_iinc (pc' := 80) (x := x6) (v := v126) (lv' := [(6, .int v126), (5, .int v125), (0, .ref 115), (1, .int x1), (2, .int x2), (3, .int x3), (4, .int x4)]) kc_57_77 rfl rfl ev126 rfl (xm_lt ml_57 rfl) ?_
              refine xi_goto (pc' := 37) kc_57_80 rfl ?_
              refine xw_lv (b := [(0, .ref 115), (1, .int x1), (2, .int x2), (3, .int x3), (4, .int x4), (5, .int v125), (6, .int v126)]) (lvS_cons (lvS_cons (lvS_cons (lvS_cons (lvS_cons (lvS_cons (lvS_cons (lvS_nil (show ([6, 5, 0, 1, 2, 3, 4] : List Nat).Nodup by decide)) rfl) rfl) rfl) rfl) rfl) rfl) rfl) ?_
              exact i1 x1 x2 x3 x4 v125 v126 hh98 (by omega) (by omega) (by omega) (by omega) K100 (by omega)
set_option maxHeartbeats 4000000 in
theorem mt_57_0 {J : xe_J} {ov : List (List Int32)} (hJ : ∀ d mj as h, mj ≠ xe_loff → J d mj as h = none) (hov1 : ov[1]? = some [10, 0, 0, 0, 0, 0]) (hov2 : ov[2]? = some [99, 30, 50, 50, 1, 99999]) {d : Nat} {Q : Option Value → xe_H → Prop} {h : xe_H} (T : xt h) (kk : (∀ (r : Int32) (h' : xe_H), ((-9) ≤ r.toInt ∧ r.toInt ≤ 7) → xk [(0, 9), (115, 1), (83, 0), (6, 0), (123, 0), (9, 0), (124, 0), (7, 0), (10, 0), (5, 0), (8, 0)] h h' → Q (some (.int r)) h')) : xw J ov (d + 8) 57 (0, [(0, .ref 115)], [], h) Q := by
  have K : xk [(0, 9), (115, 1), (83, 0), (6, 0), (123, 0), (9, 0), (124, 0), (7, 0), (10, 0), (5, 0), (8, 0)] h h := xk_re T
  refine xi_aload_n (pc' := 1) (x := 115) kc_57_0 rfl rfl ?_
  refine xi_iconst (pc' := 2) (v := 0) kc_57_1 rfl rfl ?_
  obtain ⟨u1, u2, u3, u4, u5, u6, u7, u8, u9, u10, u11, u12, u13, bu1, bu2, bu3, bu4, bu5, bu6, bu7, bu8, bu9, bu10, bu11, bu12, bu13, A14⟩ := xq_115 K.1
  refine xi_putfield (pc' := 5) (fs' := [.int 0, .int u2, .ref 116, .ref 117, .ref 118, .ref 119, .ref 120, .ref 121, .ref 122, .ref 123, .ref 124, .ref 125, .ref 126, .ref 127, .ref 128, .ref 129, .int u3, .ref 130, .int u4, .ref 131, .ref 132, .ref 133, .ref 134, .int u5, .ref 135, .ref 136, .ref 137, .ref 138, .ref 139, .ref 140, .ref 141, .ref 142, .int u6, .int u7, .int u8, .ref 143, .ref 144, .ref 145, .ref 146, .ref 147, .ref 148, .int u9, .ref 149, .ref 150, .ref 151, .int u10, .ref 152, .ref 153, .ref 154, .ref 155, .ref 156, .ref 157, .ref 158, .ref 159, .int u11, .ref 160, .int u12, .ref 161, .ref 162, .ref 163, .ref 164, .int u13, .ref 165, .ref 166]) kc_57_2 rfl rfl rfl A14 rfl rfl rfl (Nat.le_of_ble_eq_true rfl) rfl (fun hh16 eh15 => ?_)
  have K17 := xk_pf (k := 0) (v := 0) K (xk_wf rfl) xD_115 A14 rfl (by first | omega | decide) (by first | omega | decide) eh15 rfl
  refine xi_aload_n (pc' := 6) (x := 115) kc_57_5 rfl rfl ?_
  refine xi_virtual (mj := 52) (as := []) (st1 := []) (lv0 := [(0, .ref 115)]) kc_57_6 rfl rfl rfl rfl rfl eh15.1 (Nat.le_of_ble_eq_true rfl) (hJ _ _ _ _ (by decide)) (xm_le ml_52 rfl) rfl ?_
  refine mt_52_0 hJ hov1 hov2 (d := d)  K17.1 (fun r18 hh19 K20 => ?_)
  have br18 := xc_rng r18
  have K21 := xk_tr K17 K20 rfl
  obtain ⟨u22, u23, u24, u25, u26, u27, u28, u29, u30, u31, u32, u33, u34, bu22, bu23, bu24, bu25, bu26, bu27, bu28, bu29, bu30, bu31, bu32, bu33, bu34, A35⟩ := xq_115 K21.1
  have e36 : u2 = u23 := xk_eqi (q := 1) K20 rfl eh15.1 A35 rfl rfl
  subst e36
  show xw J ov (d + 8) 57 (9, [(0, .ref 115)], [.int r18], hh19) _
  refine xi_istore_n (pc' := 10) (lv' := [(1, .int r18), (0, .ref 115)]) kc_57_9 rfl rfl (xm_lt ml_57 rfl) ?_
  refine xi_bipush (pc' := 12) (v := (-9)) kc_57_10 rfl rfl ?_
  refine xi_istore_n (pc' := 13) (lv' := [(2, .int (-9)), (1, .int r18), (0, .ref 115)]) kc_57_12 rfl rfl (xm_lt ml_57 rfl) ?_
  refine xi_iconst (pc' := 14) (v := 0) kc_57_13 rfl rfl ?_
  refine xi_istore_n (pc' := 15) (lv' := [(3, .int 0), (2, .int (-9)), (1, .int r18), (0, .ref 115)]) kc_57_14 rfl rfl (xm_lt ml_57 rfl) ?_
  refine xi_iconst (pc' := 16) (v := 0) kc_57_15 rfl rfl ?_
  refine xi_istore (pc' := 18) (lv' := [(4, .int 0), (3, .int 0), (2, .int (-9)), (1, .int r18), (0, .ref 115)]) kc_57_16 rfl rfl (xm_lt ml_57 rfl) ?_
  have zcm9 : ((-9) : Int32).toInt = (-9) := by decide
  have zc0 : (0 : Int32).toInt = 0 := by decide
  refine xw_lv (b := [(0, .ref 115), (1, .int r18), (2, .int (-9)), (3, .int 0), (4, .int 0)]) (lvS_cons (lvS_cons (lvS_cons (lvS_cons (lvS_cons (lvS_nil (show ([4, 3, 2, 1, 0] : List Nat).Nodup by decide)) rfl) rfl) rfl) rfl) rfl) ?_
  exact (lp_57_0 hJ hov1 hov2 (d := d) (hb := hh19) (fun r9 h9 b9 K9 => kk r9 h9 b9 (xk_tr K21 K9 rfl)) 594).1 r18 (-9) 0 0 hh19 (by omega) (by omega) (xk_re K21.1) (by omega)
set_option maxHeartbeats 4000000 in
theorem lp_60_0 {J : xe_J} {ov : List (List Int32)} (hJ : ∀ d mj as h, mj ≠ xe_loff → J d mj as h = none) (hov1 : ov[1]? = some [10, 0, 0, 0, 0, 0]) (hov2 : ov[2]? = some [99, 30, 50, 50, 1, 99999]) {d : Nat} {Q : Option Value → xe_H → Prop} {hb : xe_H} (kk : (∀ (r : Int32) (h' : xe_H), (0 ≤ r.toInt ∧ r.toInt ≤ 1) → xk [(0, 9), (115, 1), (83, 0), (6, 0), (123, 0), (9, 0), (124, 0), (7, 0), (10, 0), (5, 0), (8, 0)] hb h' → Q (some (.int r)) h')) : ∀ m : Nat, (∀ (x1 : Int32) (x3 : Int32) (x4 : Int32) (x5 : Int32) (h : xe_H), (0 ≤ x1.toInt ∧ x1.toInt ≤ 63) → (0 ≤ x3.toInt ∧ x3.toInt ≤ 6560) → (0 ≤ x4.toInt ∧ x4.toInt ≤ 1) → (0 ≤ x5.toInt ∧ x5.toInt ≤ 8) → xk [(0, 9), (115, 1), (83, 0), (6, 0), (123, 0), (9, 0), (124, 0), (7, 0), (10, 0), (5, 0), (8, 0)] hb h → (-1) * x5.toInt + 8 < (m : Int) → xw J ov (d + 2) 60 (12, [(0, .ref 115), (1, .int x1), (3, .int x3), (4, .int x4), (5, .int x5)], [], h) Q) := by
  intro m
  induction m with
  | zero =>
    intro x1 x3 x4 x5 h b1 b3 b4 b5 K hm; exfalso; omega
  | succ m ih =>
    have i0 := ih
    intro x1 x3 x4 x5 h b1 b3 b4 b5 K hm
    refine xi_iload (pc' := 14) (x := x5) kc_60_12 rfl rfl ?_
    refine xi_aload_n (pc' := 15) (x := 115) kc_60_14 rfl rfl ?_
    obtain ⟨u1, u2, u3, u4, u5, u6, u7, u8, u9, u10, u11, u12, u13, bu1, bu2, bu3, bu4, bu5, bu6, bu7, bu8, bu9, bu10, bu11, bu12, bu13, A14⟩ := xq_115 K.1
    refine xi_getfield (pc' := 18) (v := .int u10) kc_60_15 rfl rfl rfl A14 rfl ?_
    by_cases c15 : u10.toInt ≤ x5.toInt
    · refine xi_cmt (pc' := 62) kc_60_18 rfl (xc_ge_t (X := x5.toInt) (Y := u10.toInt) rfl rfl (by omega)) ?_
      refine xi_iload (pc' := 64) (x := x4) kc_60_62 rfl rfl ?_
      by_cases c16 : x4.toInt = 0
      · have qx4 : x4 = 0 := xc_of (Eq.trans (by omega) (show (0 : Int) = (0 : Int32).toInt by decide))
        subst qx4
        refine xi_ireturn kc_60_64 mr_60 rfl ?_
        have zc0 : (0 : Int32).toInt = 0 := by decide
        exact kk 0 h (by omega) K
      have qx4 : x4 = 1 := xc_of (Eq.trans (by omega) (show (1 : Int) = (1 : Int32).toInt by decide))
      subst qx4
      refine xi_ireturn kc_60_64 mr_60 rfl ?_
      have zc1 : (1 : Int32).toInt = 1 := by decide
      exact kk 1 h (by omega) K
    · refine xi_cmf (pc' := 21) kc_60_18 rfl (xc_ge_f (X := x5.toInt) (Y := u10.toInt) rfl rfl (by omega)) ?_
      refine xi_iload (pc' := 23) (x := x4) kc_60_21 rfl rfl ?_
      by_cases c17 : x4.toInt = 0
      · refine xi_ift (pc' := 62) kc_60_23 rfl (xc_eq_t (X := x4.toInt) (Y := 0) rfl (by decide) (by omega)) ?_
        refine xi_iload (pc' := 64) (x := x4) kc_60_62 rfl rfl ?_
        have qx4 : x4 = 0 := xc_of (Eq.trans (by omega) (show (0 : Int) = (0 : Int32).toInt by decide))
        subst qx4
        refine xi_ireturn kc_60_64 mr_60 rfl ?_
        have zc0 : (0 : Int32).toInt = 0 := by decide
        exact kk 0 h (by omega) K
      · refine xi_iff (pc' := 26) kc_60_23 rfl (xc_eq_f (X := x4.toInt) (Y := 0) rfl (by decide) (by omega)) ?_
        refine xi_iload_n (pc' := 27) (x := x3) kc_60_26 rfl rfl ?_
        refine xi_iconst (pc' := 28) (v := 3) kc_60_27 rfl rfl ?_
        obtain ⟨v18, ev18⟩ : ∃ q : Int32, x3 - x3 / 3 * 3 = q := ⟨_, rfl⟩
        have dv18 : v18.toInt = x3.toInt % 3 := by rw [← ev18]; exact xz_reme (X := x3.toInt) (Y := 3) rfl (by decide) (by omega) (by decide)
        have bv18 : 0 ≤ v18.toInt ∧ v18.toInt ≤ 2 := by omega
        refine xi_irem (pc' := 29) (v := v18) kc_60_28 rfl ev18 (by decide) ?_
        by_cases c19 : v18.toInt = 0
        · refine xi_ift (pc' := 45) kc_60_29 rfl (xc_eq_t (X := v18.toInt) (Y := 0) rfl (by decide) (by omega)) ?_
          refine xi_iconst (pc' := 46) (v := 1) kc_60_45 rfl rfl ?_
          refine xi_goto (pc' := 50) kc_60_46 rfl ?_
          refine xi_istore (pc' := 52) (lv' := [(4, .int 1), (0, .ref 115), (1, .int x1), (3, .int x3), (5, .int x5)]) kc_60_50 rfl rfl (xm_lt ml_60 rfl) ?_
          refine xi_iload_n (pc' := 53) (x := x3) kc_60_52 rfl rfl ?_
          refine xi_iconst (pc' := 54) (v := 3) kc_60_53 rfl rfl ?_
          obtain ⟨v20, ev20⟩ : ∃ q : Int32, x3 / 3 = q := ⟨_, rfl⟩
          have dv20 : v20.toInt = x3.toInt / 3 := by rw [← ev20]; exact xz_dive (X := x3.toInt) (Y := 3) rfl (by decide) (by omega) (by decide)
          have bv20 : 0 ≤ v20.toInt ∧ v20.toInt ≤ 2186 := by omega
          refine xi_idiv (pc' := 55) (v := v20) kc_60_54 rfl ev20 (by decide) ?_
          refine xi_istore_n (pc' := 56) (lv' := [(3, .int v20), (4, .int 1), (0, .ref 115), (1, .int x1), (5, .int x5)]) kc_60_55 rfl rfl (xm_lt ml_60 rfl) ?_
          obtain ⟨v21, ev21⟩ : ∃ q : Int32, x5 + 1 = q := ⟨_, rfl⟩
          have zv21 : v21.toInt = (x5.toInt + 1) := by rw [← ev21]; exact (xz_add (X := x5.toInt) (Y := 1) rfl (by decide) (by omega) (by omega)).trans (by omega)
          refine xi_iinc (pc' := 59) (x := x5) (v := v21) (lv' := [(5, .int v21), (3, .int v20), (4, .int 1), (0, .ref 115), (1, .int x1)]) kc_60_56 rfl rfl ev21 rfl (xm_lt ml_60 rfl) ?_
          refine xi_goto (pc' := 12) kc_60_59 rfl ?_
          have zc1 : (1 : Int32).toInt = 1 := by decide
          refine xw_lv (b := [(0, .ref 115), (1, .int x1), (3, .int v20), (4, .int 1), (5, .int v21)]) (lvS_cons (lvS_cons (lvS_cons (lvS_cons (lvS_cons (lvS_nil (show ([5, 3, 4, 0, 1] : List Nat).Nodup by decide)) rfl) rfl) rfl) rfl) rfl) ?_
          exact i0 x1 v20 1 v21 h (by omega) (by omega) (by omega) (by omega) K (by omega)
        · refine xi_iff (pc' := 32) kc_60_29 rfl (xc_eq_f (X := v18.toInt) (Y := 0) rfl (by decide) (by omega)) ?_
          refine xi_iload_n (pc' := 33) (x := x3) kc_60_32 rfl rfl ?_
          refine xi_iconst (pc' := 34) (v := 3) kc_60_33 rfl rfl ?_
          refine xi_irem (pc' := 35) (v := v18) kc_60_34 rfl ev18 (by decide) ?_
          refine xi_aload_n (pc' := 36) (x := 115) kc_60_35 rfl rfl ?_
          refine xi_iload (pc' := 38) (x := x5) kc_60_36 rfl rfl ?_
          refine xi_iload_n (pc' := 39) (x := x1) kc_60_38 rfl rfl ?_
          refine xi_virtual (mj := 54) (as := [.int x5, .int x1]) (st1 := [.int v18]) (lv0 := [(0, .ref 115), (1, .int x5), (2, .int x1)]) kc_60_39 rfl rfl rfl rfl rfl A14 (Nat.le_of_ble_eq_true rfl) (hJ _ _ _ _ (by decide)) (xm_le ml_54 rfl) rfl ?_
          refine xi_aload_n (pc' := 1) (x := 115) kc_54_0 rfl rfl ?_
          refine xi_getfield (pc' := 4) (v := .ref 152) kc_54_1 rfl rfl rfl A14 rfl ?_
          refine xi_iload_n (pc' := 5) (x := x5) kc_54_4 rfl rfl ?_
          obtain ⟨y22, A22, hy22, ry22⟩ := xk_arr K.1 xD_152
          obtain ⟨v23, ev23, bv23, dv23⟩ := xj_get hy22 ry22 (i := x5) (by omega) (by omega)
          refine xi_iaload (pc' := 6) (v := v23) kc_54_5 rfl A22 (by decide) rfl (xi_in (by omega) (by rw [hy22]; omega)) ev23 ?_
          refine xi_iload_n (pc' := 7) (x := x1) kc_54_6 rfl rfl ?_
          obtain ⟨v24, ev24⟩ : ∃ q : Int32, (v23 : Int32) &&& x1 = q := ⟨_, rfl⟩
          have rv24 := xc_rng v24
          refine xi_iand (pc' := 8) (v := v24) kc_54_7 rfl ev24 ?_
          by_cases c25 : v24.toInt = 0
          · refine xi_ift (pc' := 15) kc_54_8 rfl (xc_eq_t (X := v24.toInt) (Y := 0) rfl (by decide) (by omega)) ?_
            refine xi_iconst (pc' := 16) (v := 2) kc_54_15 rfl rfl ?_
            refine xi_ireturn kc_54_16 mr_54 rfl ?_
            show xw J ov (d + 2) 60 (42, [(0, .ref 115), (1, .int x1), (3, .int x3), (4, .int x4), (5, .int x5)], [.int 2, .int v18], h) _
            by_cases c26 : v18.toInt = 2
            · refine xi_cmf (pc' := 45) kc_60_42 rfl (xc_ne_f (X := v18.toInt) (Y := 2) rfl (by decide) (by omega)) ?_
              refine xi_iconst (pc' := 46) (v := 1) kc_60_45 rfl rfl ?_
              refine xi_goto (pc' := 50) kc_60_46 rfl ?_
              refine xi_istore (pc' := 52) (lv' := [(4, .int 1), (0, .ref 115), (1, .int x1), (3, .int x3), (5, .int x5)]) kc_60_50 rfl rfl (xm_lt ml_60 rfl) ?_
              refine xi_iload_n (pc' := 53) (x := x3) kc_60_52 rfl rfl ?_
              refine xi_iconst (pc' := 54) (v := 3) kc_60_53 rfl rfl ?_
              obtain ⟨v27, ev27⟩ : ∃ q : Int32, x3 / 3 = q := ⟨_, rfl⟩
              have dv27 : v27.toInt = x3.toInt / 3 := by rw [← ev27]; exact xz_dive (X := x3.toInt) (Y := 3) rfl (by decide) (by omega) (by decide)
              have bv27 : 0 ≤ v27.toInt ∧ v27.toInt ≤ 2186 := by omega
              refine xi_idiv (pc' := 55) (v := v27) kc_60_54 rfl ev27 (by decide) ?_
              refine xi_istore_n (pc' := 56) (lv' := [(3, .int v27), (4, .int 1), (0, .ref 115), (1, .int x1), (5, .int x5)]) kc_60_55 rfl rfl (xm_lt ml_60 rfl) ?_
              obtain ⟨v28, ev28⟩ : ∃ q : Int32, x5 + 1 = q := ⟨_, rfl⟩
              have zv28 : v28.toInt = (x5.toInt + 1) := by rw [← ev28]; exact (xz_add (X := x5.toInt) (Y := 1) rfl (by decide) (by omega) (by omega)).trans (by omega)
              refine xi_iinc (pc' := 59) (x := x5) (v := v28) (lv' := [(5, .int v28), (3, .int v27), (4, .int 1), (0, .ref 115), (1, .int x1)]) kc_60_56 rfl rfl ev28 rfl (xm_lt ml_60 rfl) ?_
              refine xi_goto (pc' := 12) kc_60_59 rfl ?_
              have zc1 : (1 : Int32).toInt = 1 := by decide
              refine xw_lv (b := [(0, .ref 115), (1, .int x1), (3, .int v27), (4, .int 1), (5, .int v28)]) (lvS_cons (lvS_cons (lvS_cons (lvS_cons (lvS_cons (lvS_nil (show ([5, 3, 4, 0, 1] : List Nat).Nodup by decide)) rfl) rfl) rfl) rfl) rfl) ?_
              exact i0 x1 v27 1 v28 h (by omega) (by omega) (by omega) (by omega) K (by omega)
            · refine xi_cmt (pc' := 49) kc_60_42 rfl (xc_ne_t (X := v18.toInt) (Y := 2) rfl (by decide) (by omega)) ?_
              refine xi_iconst (pc' := 50) (v := 0) kc_60_49 rfl rfl ?_
              refine xi_istore (pc' := 52) (lv' := [(4, .int 0), (0, .ref 115), (1, .int x1), (3, .int x3), (5, .int x5)]) kc_60_50 rfl rfl (xm_lt ml_60 rfl) ?_
              refine xi_iload_n (pc' := 53) (x := x3) kc_60_52 rfl rfl ?_
              refine xi_iconst (pc' := 54) (v := 3) kc_60_53 rfl rfl ?_
              obtain ⟨v29, ev29⟩ : ∃ q : Int32, x3 / 3 = q := ⟨_, rfl⟩
              have dv29 : v29.toInt = x3.toInt / 3 := by rw [← ev29]; exact xz_dive (X := x3.toInt) (Y := 3) rfl (by decide) (by omega) (by decide)
              have bv29 : 0 ≤ v29.toInt ∧ v29.toInt ≤ 2186 := by omega
              refine xi_idiv (pc' := 55) (v := v29) kc_60_54 rfl ev29 (by decide) ?_
              refine xi_istore_n (pc' := 56) (lv' := [(3, .int v29), (4, .int 0), (0, .ref 115), (1, .int x1), (5, .int x5)]) kc_60_55 rfl rfl (xm_lt ml_60 rfl) ?_
              obtain ⟨v30, ev30⟩ : ∃ q : Int32, x5 + 1 = q := ⟨_, rfl⟩
              have zv30 : v30.toInt = (x5.toInt + 1) := by rw [← ev30]; exact (xz_add (X := x5.toInt) (Y := 1) rfl (by decide) (by omega) (by omega)).trans (by omega)
              refine xi_iinc (pc' := 59) (x := x5) (v := v30) (lv' := [(5, .int v30), (3, .int v29), (4, .int 0), (0, .ref 115), (1, .int x1)]) kc_60_56 rfl rfl ev30 rfl (xm_lt ml_60 rfl) ?_
              refine xi_goto (pc' := 12) kc_60_59 rfl ?_
              have zc0 : (0 : Int32).toInt = 0 := by decide
              refine xw_lv (b := [(0, .ref 115), (1, .int x1), (3, .int v29), (4, .int 0), (5, .int v30)]) (lvS_cons (lvS_cons (lvS_cons (lvS_cons (lvS_cons (lvS_nil (show ([5, 3, 4, 0, 1] : List Nat).Nodup by decide)) rfl) rfl) rfl) rfl) rfl) ?_
              exact i0 x1 v29 0 v30 h (by omega) (by omega) (by omega) (by omega) K (by omega)
          · refine xi_iff (pc' := 11) kc_54_8 rfl (xc_eq_f (X := v24.toInt) (Y := 0) rfl (by decide) (by omega)) ?_
            refine xi_iconst (pc' := 12) (v := 1) kc_54_11 rfl rfl ?_
            refine xi_goto (pc' := 16) kc_54_12 rfl ?_
            refine xi_ireturn kc_54_16 mr_54 rfl ?_
            show xw J ov (d + 2) 60 (42, [(0, .ref 115), (1, .int x1), (3, .int x3), (4, .int x4), (5, .int x5)], [.int 1, .int v18], h) _
            by_cases c31 : v18.toInt = 1
            · refine xi_cmf (pc' := 45) kc_60_42 rfl (xc_ne_f (X := v18.toInt) (Y := 1) rfl (by decide) (by omega)) ?_
              refine xi_iconst (pc' := 46) (v := 1) kc_60_45 rfl rfl ?_
              refine xi_goto (pc' := 50) kc_60_46 rfl ?_
              refine xi_istore (pc' := 52) (lv' := [(4, .int 1), (0, .ref 115), (1, .int x1), (3, .int x3), (5, .int x5)]) kc_60_50 rfl rfl (xm_lt ml_60 rfl) ?_
              refine xi_iload_n (pc' := 53) (x := x3) kc_60_52 rfl rfl ?_
              refine xi_iconst (pc' := 54) (v := 3) kc_60_53 rfl rfl ?_
              obtain ⟨v32, ev32⟩ : ∃ q : Int32, x3 / 3 = q := ⟨_, rfl⟩
              have dv32 : v32.toInt = x3.toInt / 3 := by rw [← ev32]; exact xz_dive (X := x3.toInt) (Y := 3) rfl (by decide) (by omega) (by decide)
              have bv32 : 0 ≤ v32.toInt ∧ v32.toInt ≤ 2186 := by omega
              refine xi_idiv (pc' := 55) (v := v32) kc_60_54 rfl ev32 (by decide) ?_
              refine xi_istore_n (pc' := 56) (lv' := [(3, .int v32), (4, .int 1), (0, .ref 115), (1, .int x1), (5, .int x5)]) kc_60_55 rfl rfl (xm_lt ml_60 rfl) ?_
              obtain ⟨v33, ev33⟩ : ∃ q : Int32, x5 + 1 = q := ⟨_, rfl⟩
              have zv33 : v33.toInt = (x5.toInt + 1) := by rw [← ev33]; exact (xz_add (X := x5.toInt) (Y := 1) rfl (by decide) (by omega) (by omega)).trans (by omega)
              refine xi_iinc (pc' := 59) (x := x5) (v := v33) (lv' := [(5, .int v33), (3, .int v32), (4, .int 1), (0, .ref 115), (1, .int x1)]) kc_60_56 rfl rfl ev33 rfl (xm_lt ml_60 rfl) ?_
              refine xi_goto (pc' := 12) kc_60_59 rfl ?_
              have zc1 : (1 : Int32).toInt = 1 := by decide
              refine xw_lv (b := [(0, .ref 115), (1, .int x1), (3, .int v32), (4, .int 1), (5, .int v33)]) (lvS_cons (lvS_cons (lvS_cons (lvS_cons (lvS_cons (lvS_nil (show ([5, 3, 4, 0, 1] : List Nat).Nodup by decide)) rfl) rfl) rfl) rfl) rfl) ?_
              exact i0 x1 v32 1 v33 h (by omega) (by omega) (by omega) (by omega) K (by omega)
            · refine xi_cmt (pc' := 49) kc_60_42 rfl (xc_ne_t (X := v18.toInt) (Y := 1) rfl (by decide) (by omega)) ?_
              refine xi_iconst (pc' := 50) (v := 0) kc_60_49 rfl rfl ?_
              refine xi_istore (pc' := 52) (lv' := [(4, .int 0), (0, .ref 115), (1, .int x1), (3, .int x3), (5, .int x5)]) kc_60_50 rfl rfl (xm_lt ml_60 rfl) ?_
              refine xi_iload_n (pc' := 53) (x := x3) kc_60_52 rfl rfl ?_
              refine xi_iconst (pc' := 54) (v := 3) kc_60_53 rfl rfl ?_
              obtain ⟨v34, ev34⟩ : ∃ q : Int32, x3 / 3 = q := ⟨_, rfl⟩
              have dv34 : v34.toInt = x3.toInt / 3 := by rw [← ev34]; exact xz_dive (X := x3.toInt) (Y := 3) rfl (by decide) (by omega) (by decide)
              have bv34 : 0 ≤ v34.toInt ∧ v34.toInt ≤ 2186 := by omega
              refine xi_idiv (pc' := 55) (v := v34) kc_60_54 rfl ev34 (by decide) ?_
              refine xi_istore_n (pc' := 56) (lv' := [(3, .int v34), (4, .int 0), (0, .ref 115), (1, .int x1), (5, .int x5)]) kc_60_55 rfl rfl (xm_lt ml_60 rfl) ?_
              obtain ⟨v35, ev35⟩ : ∃ q : Int32, x5 + 1 = q := ⟨_, rfl⟩
              have zv35 : v35.toInt = (x5.toInt + 1) := by rw [← ev35]; exact (xz_add (X := x5.toInt) (Y := 1) rfl (by decide) (by omega) (by omega)).trans (by omega)
              refine xi_iinc (pc' := 59) (x := x5) (v := v35) (lv' := [(5, .int v35), (3, .int v34), (4, .int 0), (0, .ref 115), (1, .int x1)]) kc_60_56 rfl rfl ev35 rfl (xm_lt ml_60 rfl) ?_
              refine xi_goto (pc' := 12) kc_60_59 rfl ?_
              have zc0 : (0 : Int32).toInt = 0 := by decide
              refine xw_lv (b := [(0, .ref 115), (1, .int x1), (3, .int v34), (4, .int 0), (5, .int v35)]) (lvS_cons (lvS_cons (lvS_cons (lvS_cons (lvS_cons (lvS_nil (show ([5, 3, 4, 0, 1] : List Nat).Nodup by decide)) rfl) rfl) rfl) rfl) rfl) ?_
              exact i0 x1 v34 0 v35 h (by omega) (by omega) (by omega) (by omega) K (by omega)
set_option maxHeartbeats 4000000 in
theorem mt_60_0 {J : xe_J} {ov : List (List Int32)} (hJ : ∀ d mj as h, mj ≠ xe_loff → J d mj as h = none) (hov1 : ov[1]? = some [10, 0, 0, 0, 0, 0]) (hov2 : ov[2]? = some [99, 30, 50, 50, 1, 99999]) {d : Nat} {Q : Option Value → xe_H → Prop} {h : xe_H} {x1 : Int32} {x2 : Int32} (T : xt h) (b1 : (0 ≤ x1.toInt ∧ x1.toInt ≤ 63)) (b2 : (0 ≤ x2.toInt ∧ x2.toInt ≤ 6560)) (kk : (∀ (r : Int32) (h' : xe_H), (0 ≤ r.toInt ∧ r.toInt ≤ 1) → xk [(0, 9), (115, 1), (83, 0), (6, 0), (123, 0), (9, 0), (124, 0), (7, 0), (10, 0), (5, 0), (8, 0)] h h' → Q (some (.int r)) h')) : xw J ov (d + 2) 60 (0, [(0, .ref 115), (1, .int x1), (2, .int x2)], [], h) Q := by
  have K : xk [(0, 9), (115, 1), (83, 0), (6, 0), (123, 0), (9, 0), (124, 0), (7, 0), (10, 0), (5, 0), (8, 0)] h h := xk_re T
  refine xi_iload_n (pc' := 1) (x := x2) kc_60_0 rfl rfl ?_
  refine xi_istore_n (pc' := 2) (lv' := [(3, .int x2), (0, .ref 115), (1, .int x1), (2, .int x2)]) kc_60_1 rfl rfl (xm_lt ml_60 rfl) ?_
  refine xi_aload_n (pc' := 3) (x := 115) kc_60_2 rfl rfl ?_
  refine xi_iload_n (pc' := 4) (x := x1) kc_60_3 rfl rfl ?_
  obtain ⟨u1, u2, u3, u4, u5, u6, u7, u8, u9, u10, u11, u12, u13, bu1, bu2, bu3, bu4, bu5, bu6, bu7, bu8, bu9, bu10, bu11, bu12, bu13, A14⟩ := xq_115 K.1
  refine xi_virtual (mj := 53) (as := [.int x1]) (st1 := []) (lv0 := [(0, .ref 115), (1, .int x1)]) kc_60_4 rfl rfl rfl rfl rfl A14 (Nat.le_of_ble_eq_true rfl) (hJ _ _ _ _ (by decide)) (xm_le ml_53 rfl) rfl ?_
  refine mt_53_0 hJ hov1 hov2 (d := d) (x1 := x1) K.1 (by first | omega | decide) (fun r15 hh16 br15 K17 => ?_)
  have K18 := xk_tr K K17 rfl
  obtain ⟨u19, u20, u21, u22, u23, u24, u25, u26, u27, u28, u29, u30, u31, bu19, bu20, bu21, bu22, bu23, bu24, bu25, bu26, bu27, bu28, bu29, bu30, bu31, A32⟩ := xq_115 K18.1
  have e33 : u2 = u20 := xk_eqi (q := 1) K17 rfl A14 A32 rfl rfl
  subst e33
  show xw J ov (d + 2) 60 (7, [(3, .int x2), (0, .ref 115), (1, .int x1), (2, .int x2)], [.int r15], hh16) _
  refine xi_istore (pc' := 9) (lv' := [(4, .int r15), (3, .int x2), (0, .ref 115), (1, .int x1), (2, .int x2)]) kc_60_7 rfl rfl (xm_lt ml_60 rfl) ?_
  refine xi_iconst (pc' := 10) (v := 0) kc_60_9 rfl rfl ?_
  refine xi_istore (pc' := 12) (lv' := [(5, .int 0), (4, .int r15), (3, .int x2), (0, .ref 115), (1, .int x1), (2, .int x2)]) kc_60_10 rfl rfl (xm_lt ml_60 rfl) ?_
  have zc0 : (0 : Int32).toInt = 0 := by decide
  refine xw_lv (b := [(0, .ref 115), (1, .int x1), (3, .int x2), (4, .int r15), (5, .int 0)]) (lvS_cons (lvS_cons (lvS_cons (lvS_cons (lvS_cons (lvS_nil (show ([5, 4, 3, 0, 1, 2] : List Nat).Nodup by decide)) rfl) rfl) rfl) rfl) rfl) ?_
  exact (lp_60_0 hJ hov1 hov2 (d := d) (hb := hh16) (fun r9 h9 b9 K9 => kk r9 h9 b9 (xk_tr K18 K9 rfl)) 9) x1 x2 r15 0 hh16 (by omega) (by omega) (by omega) (by omega) (xk_re K18.1) (by omega)
set_option maxHeartbeats 4000000 in
theorem lp_59_0 {J : xe_J} {ov : List (List Int32)} (hJ : ∀ d mj as h, mj ≠ xe_loff → J d mj as h = none) (hov1 : ov[1]? = some [10, 0, 0, 0, 0, 0]) (hov2 : ov[2]? = some [99, 30, 50, 50, 1, 99999]) {d : Nat} {Q : Option Value → xe_H → Prop} {hb : xe_H} (kk : (∀ (r : Int32) (h' : xe_H), (0 ≤ r.toInt ∧ r.toInt ≤ 1) → xk [(0, 9), (115, 1), (83, 0), (6, 0), (123, 0), (9, 0), (124, 0), (7, 0), (10, 0), (5, 0), (8, 0)] hb h' → Q (some (.int r)) h')) : ∀ m : Nat, (∀ (x1 : Int32) (x2 : Int32) (x3 : Int32) (x4 : Int32) (x5 : Int32) (h : xe_H), (0 ≤ x1.toInt ∧ x1.toInt ≤ 6560) → (0 ≤ x2.toInt ∧ x2.toInt ≤ 7) → (0 ≤ x3.toInt ∧ x3.toInt ≤ 1) → (0 ≤ x4.toInt ∧ x4.toInt ≤ 1) → (0 ≤ x5.toInt ∧ x5.toInt ≤ 64) → xk [(0, 9), (115, 1), (83, 0), (6, 0), (123, 0), (9, 0), (124, 0), (7, 0), (10, 0), (5, 0), (8, 0)] hb h → (-1) * x5.toInt + 64 < (m : Int) → xw J ov (d + 3) 59 (8, [(0, .ref 115), (1, .int x1), (2, .int x2), (3, .int x3), (4, .int x4), (5, .int x5)], [], h) Q) := by
  intro m
  induction m with
  | zero =>
    intro x1 x2 x3 x4 x5 h b1 b2 b3 b4 b5 K hm; exfalso; omega
  | succ m ih =>
    have i0 := ih
    intro x1 x2 x3 x4 x5 h b1 b2 b3 b4 b5 K hm
    refine xi_iload (pc' := 10) (x := x5) kc_59_8 rfl rfl ?_
    refine xi_aload_n (pc' := 11) (x := 115) kc_59_10 rfl rfl ?_
    obtain ⟨u1, u2, u3, u4, u5, u6, u7, u8, u9, u10, u11, u12, u13, bu1, bu2, bu3, bu4, bu5, bu6, bu7, bu8, bu9, bu10, bu11, bu12, bu13, A14⟩ := xq_115 K.1
    refine xi_virtual (mj := 42) (as := []) (st1 := [.int x5]) (lv0 := [(0, .ref 115)]) kc_59_11 rfl rfl rfl rfl rfl A14 (Nat.le_of_ble_eq_true rfl) (hJ _ _ _ _ (by decide)) (xm_le ml_42 rfl) rfl ?_
    refine xi_iconst (pc' := 1) (v := 1) kc_42_0 rfl rfl ?_
    refine xi_aload_n (pc' := 2) (x := 115) kc_42_1 rfl rfl ?_
    refine xi_getfield (pc' := 5) (v := .int u5) kc_42_2 rfl rfl rfl A14 rfl ?_
    refine xi_bipush (pc' := 7) (v := 6) kc_42_5 rfl rfl ?_
    by_cases c15 : 6 ≤ u5.toInt
    · refine xi_cmt (pc' := 17) kc_42_7 rfl (xc_ge_t (X := u5.toInt) (Y := 6) rfl (by decide) (by omega)) ?_
      refine xi_bipush (pc' := 19) (v := 6) kc_42_17 rfl rfl ?_
      refine xi_ishl (pc' := 20) (v := 64) kc_42_19 rfl rfl ?_
      refine xi_ireturn kc_42_20 mr_42 rfl ?_
      show xw J ov (d + 3) 59 (14, [(0, .ref 115), (1, .int x1), (2, .int x2), (3, .int x3), (4, .int x4), (5, .int x5)], [.int 64, .int x5], h) _
      by_cases c16 : 64 ≤ x5.toInt
      · refine xi_cmt (pc' := 86) kc_59_14 rfl (xc_ge_t (X := x5.toInt) (Y := 64) rfl (by decide) (by omega)) ?_
        refine xi_iload_n (pc' := 87) (x := x3) kc_59_86 rfl rfl ?_
        by_cases c17 : x3.toInt = 0
        · refine xi_ift (pc' := 99) kc_59_87 rfl (xc_eq_t (X := x3.toInt) (Y := 0) rfl (by decide) (by omega)) ?_
          refine xi_iconst (pc' := 100) (v := 0) kc_59_99 rfl rfl ?_
          refine xi_ireturn kc_59_100 mr_59 rfl ?_
          have zc0 : (0 : Int32).toInt = 0 := by decide
          exact kk 0 h (by omega) K
        · refine xi_iff (pc' := 90) kc_59_87 rfl (xc_eq_f (X := x3.toInt) (Y := 0) rfl (by decide) (by omega)) ?_
          refine xi_iload (pc' := 92) (x := x4) kc_59_90 rfl rfl ?_
          by_cases c18 : x4.toInt = 0
          · refine xi_ift (pc' := 99) kc_59_92 rfl (xc_eq_t (X := x4.toInt) (Y := 0) rfl (by decide) (by omega)) ?_
            refine xi_iconst (pc' := 100) (v := 0) kc_59_99 rfl rfl ?_
            refine xi_ireturn kc_59_100 mr_59 rfl ?_
            have zc0 : (0 : Int32).toInt = 0 := by decide
            exact kk 0 h (by omega) K
          · refine xi_iff (pc' := 95) kc_59_92 rfl (xc_eq_f (X := x4.toInt) (Y := 0) rfl (by decide) (by omega)) ?_
            refine xi_iconst (pc' := 96) (v := 1) kc_59_95 rfl rfl ?_
            refine xi_goto (pc' := 100) kc_59_96 rfl ?_
            refine xi_ireturn kc_59_100 mr_59 rfl ?_
            have zc1 : (1 : Int32).toInt = 1 := by decide
            exact kk 1 h (by omega) K
      · refine xi_cmf (pc' := 17) kc_59_14 rfl (xc_ge_f (X := x5.toInt) (Y := 64) rfl (by decide) (by omega)) ?_
        refine xi_iload_n (pc' := 18) (x := x3) kc_59_17 rfl rfl ?_
        by_cases c19 : x3.toInt = 0
        · refine xi_ift (pc' := 26) kc_59_18 rfl (xc_eq_t (X := x3.toInt) (Y := 0) rfl (by decide) (by omega)) ?_
          refine xi_aload_n (pc' := 27) (x := 115) kc_59_26 rfl rfl ?_
          refine xi_iload (pc' := 29) (x := x5) kc_59_27 rfl rfl ?_
          refine xi_iload_n (pc' := 30) (x := x1) kc_59_29 rfl rfl ?_
          refine xi_virtual (mj := 60) (as := [.int x5, .int x1]) (st1 := []) (lv0 := [(0, .ref 115), (1, .int x5), (2, .int x1)]) kc_59_30 rfl rfl rfl rfl rfl A14 (Nat.le_of_ble_eq_true rfl) (hJ _ _ _ _ (by decide)) (xm_le ml_60 rfl) rfl ?_
          refine mt_60_0 hJ hov1 hov2 (d := d) (x1 := x5) (x2 := x1) K.1 (by first | omega | decide) (by first | omega | decide) (fun r20 hh21 br20 K22 => ?_)
          have K23 := xk_tr K K22 rfl
          obtain ⟨u24, u25, u26, u27, u28, u29, u30, u31, u32, u33, u34, u35, u36, bu24, bu25, bu26, bu27, bu28, bu29, bu30, bu31, bu32, bu33, bu34, bu35, bu36, A37⟩ := xq_115 K23.1
          have e38 : u2 = u25 := xk_eqi (q := 1) K22 rfl A14 A37 rfl rfl
          subst e38
          show xw J ov (d + 3) 59 (33, [(0, .ref 115), (1, .int x1), (2, .int x2), (3, .int x3), (4, .int x4), (5, .int x5)], [.int r20], hh21) _
          by_cases c39 : r20.toInt = 0
          · refine xi_ift (pc' := 80) kc_59_33 rfl (xc_eq_t (X := r20.toInt) (Y := 0) rfl (by decide) (by omega)) ?_
            obtain ⟨v40, ev40⟩ : ∃ q : Int32, x5 + 1 = q := ⟨_, rfl⟩
            have zv40 : v40.toInt = (x5.toInt + 1) := by rw [← ev40]; exact (xz_add (X := x5.toInt) (Y := 1) rfl (by decide) (by omega) (by omega)).trans (by omega)
            refine xi_iinc (pc' := 83) (x := x5) (v := v40) (lv' := [(5, .int v40), (0, .ref 115), (1, .int x1), (2, .int x2), (3, .int x3), (4, .int x4)]) kc_59_80 rfl rfl ev40 rfl (xm_lt ml_59 rfl) ?_
            refine xi_goto (pc' := 8) kc_59_83 rfl ?_
            refine xw_lv (b := [(0, .ref 115), (1, .int x1), (2, .int x2), (3, .int x3), (4, .int x4), (5, .int v40)]) (lvS_cons (lvS_cons (lvS_cons (lvS_cons (lvS_cons (lvS_cons (lvS_nil (show ([5, 0, 1, 2, 3, 4] : List Nat).Nodup by decide)) rfl) rfl) rfl) rfl) rfl) rfl) ?_
            exact i0 x1 x2 x3 x4 v40 hh21 (by omega) (by omega) (by omega) (by omega) (by omega) K23 (by omega)
          · refine xi_iff (pc' := 36) kc_59_33 rfl (xc_eq_f (X := r20.toInt) (Y := 0) rfl (by decide) (by omega)) ?_
            refine xi_iload_n (pc' := 37) (x := x3) kc_59_36 rfl rfl ?_
            refine xi_iff (pc' := 40) kc_59_37 rfl (xc_ne_f (X := x3.toInt) (Y := 0) rfl (by decide) (by omega)) ?_
            refine xi_aload_n (pc' := 41) (x := 115) kc_59_40 rfl rfl ?_
            refine xi_iload_n (pc' := 42) (x := x2) kc_59_41 rfl rfl ?_
            refine xi_iload (pc' := 44) (x := x5) kc_59_42 rfl rfl ?_
            refine xi_virtual (mj := 54) (as := [.int x2, .int x5]) (st1 := []) (lv0 := [(0, .ref 115), (1, .int x2), (2, .int x5)]) kc_59_44 rfl rfl rfl rfl rfl A37 (Nat.le_of_ble_eq_true rfl) (hJ _ _ _ _ (by decide)) (xm_le ml_54 rfl) rfl ?_
            refine xi_aload_n (pc' := 1) (x := 115) kc_54_0 rfl rfl ?_
            refine xi_getfield (pc' := 4) (v := .ref 152) kc_54_1 rfl rfl rfl A37 rfl ?_
            refine xi_iload_n (pc' := 5) (x := x2) kc_54_4 rfl rfl ?_
            obtain ⟨y41, A41, hy41, ry41⟩ := xk_arr K23.1 xD_152
            obtain ⟨v42, ev42, bv42, dv42⟩ := xj_get hy41 ry41 (i := x2) (by omega) (by omega)
            refine xi_iaload (pc' := 6) (v := v42) kc_54_5 rfl A41 (by decide) rfl (xi_in (by omega) (by rw [hy41]; omega)) ev42 ?_
            refine xi_iload_n (pc' := 7) (x := x5) kc_54_6 rfl rfl ?_
            obtain ⟨v43, ev43⟩ : ∃ q : Int32, (v42 : Int32) &&& x5 = q := ⟨_, rfl⟩
            have rv43 := xc_rng v43
            refine xi_iand (pc' := 8) (v := v43) kc_54_7 rfl ev43 ?_
            by_cases c44 : v43.toInt = 0
            · refine xi_ift (pc' := 15) kc_54_8 rfl (xc_eq_t (X := v43.toInt) (Y := 0) rfl (by decide) (by omega)) ?_
              refine xi_iconst (pc' := 16) (v := 2) kc_54_15 rfl rfl ?_
              refine xi_ireturn kc_54_16 mr_54 rfl ?_
              show xw J ov (d + 3) 59 (47, [(0, .ref 115), (1, .int x1), (2, .int x2), (3, .int x3), (4, .int x4), (5, .int x5)], [.int 2], hh21) _
              refine xi_iconst (pc' := 48) (v := 1) kc_59_47 rfl rfl ?_
              refine xi_cmt (pc' := 55) kc_59_48 rfl rfl ?_
              refine xi_iconst (pc' := 56) (v := 0) kc_59_55 rfl rfl ?_
              refine xi_istore_n (pc' := 57) (lv' := [(3, .int 0), (0, .ref 115), (1, .int x1), (2, .int x2), (4, .int x4), (5, .int x5)]) kc_59_56 rfl rfl (xm_lt ml_59 rfl) ?_
              refine xi_iload (pc' := 59) (x := x4) kc_59_57 rfl rfl ?_
              by_cases c45 : x4.toInt = 0
              · refine xi_iff (pc' := 62) kc_59_59 rfl (xc_ne_f (X := x4.toInt) (Y := 0) rfl (by decide) (by omega)) ?_
                refine xi_aload_n (pc' := 63) (x := 115) kc_59_62 rfl rfl ?_
                refine xi_iload_n (pc' := 64) (x := x2) kc_59_63 rfl rfl ?_
                refine xi_iload (pc' := 66) (x := x5) kc_59_64 rfl rfl ?_
                refine xi_virtual (mj := 54) (as := [.int x2, .int x5]) (st1 := []) (lv0 := [(0, .ref 115), (1, .int x2), (2, .int x5)]) kc_59_66 rfl rfl rfl rfl rfl A37 (Nat.le_of_ble_eq_true rfl) (hJ _ _ _ _ (by decide)) (xm_le ml_54 rfl) rfl ?_
                refine xi_aload_n (pc' := 1) (x := 115) kc_54_0 rfl rfl ?_
                refine xi_getfield (pc' := 4) (v := .ref 152) kc_54_1 rfl rfl rfl A37 rfl ?_
                refine xi_iload_n (pc' := 5) (x := x2) kc_54_4 rfl rfl ?_
                refine xi_iaload (pc' := 6) (v := v42) kc_54_5 rfl A41 (by decide) rfl (xi_in (by omega) (by rw [hy41]; omega)) ev42 ?_
                refine xi_iload_n (pc' := 7) (x := x5) kc_54_6 rfl rfl ?_
                refine xi_iand (pc' := 8) (v := v43) kc_54_7 rfl ev43 ?_
                refine xi_ift (pc' := 15) kc_54_8 rfl (xc_eq_t (X := v43.toInt) (Y := 0) rfl (by decide) (by omega)) ?_
                refine xi_iconst (pc' := 16) (v := 2) kc_54_15 rfl rfl ?_
                refine xi_ireturn kc_54_16 mr_54 rfl ?_
                show xw J ov (d + 3) 59 (69, [(3, .int 0), (0, .ref 115), (1, .int x1), (2, .int x2), (4, .int x4), (5, .int x5)], [.int 2], hh21) _
                refine xi_iconst (pc' := 70) (v := 2) kc_59_69 rfl rfl ?_
                refine xi_cmf (pc' := 73) kc_59_70 rfl rfl ?_
                refine xi_iconst (pc' := 74) (v := 1) kc_59_73 rfl rfl ?_
                refine xi_goto (pc' := 78) kc_59_74 rfl ?_
                refine xi_istore (pc' := 80) (lv' := [(4, .int 1), (3, .int 0), (0, .ref 115), (1, .int x1), (2, .int x2), (5, .int x5)]) kc_59_78 rfl rfl (xm_lt ml_59 rfl) ?_
                obtain ⟨v46, ev46⟩ : ∃ q : Int32, x5 + 1 = q := ⟨_, rfl⟩
                have zv46 : v46.toInt = (x5.toInt + 1) := by rw [← ev46]; exact (xz_add (X := x5.toInt) (Y := 1) rfl (by decide) (by omega) (by omega)).trans (by omega)
                refine xi_iinc (pc' := 83) (x := x5) (v := v46) (lv' := [(5, .int v46), (4, .int 1), (3, .int 0), (0, .ref 115), (1, .int x1), (2, .int x2)]) kc_59_80 rfl rfl ev46 rfl (xm_lt ml_59 rfl) ?_
                refine xi_goto (pc' := 8) kc_59_83 rfl ?_
                have zc0 : (0 : Int32).toInt = 0 := by decide
                have zc1 : (1 : Int32).toInt = 1 := by decide
                refine xw_lv (b := [(0, .ref 115), (1, .int x1), (2, .int x2), (3, .int 0), (4, .int 1), (5, .int v46)]) (lvS_cons (lvS_cons (lvS_cons (lvS_cons (lvS_cons (lvS_cons (lvS_nil (show ([5, 4, 3, 0, 1, 2] : List Nat).Nodup by decide)) rfl) rfl) rfl) rfl) rfl) rfl) ?_
                exact i0 x1 x2 0 1 v46 hh21 (by omega) (by omega) (by omega) (by omega) (by omega) K23 (by omega)
              · refine xi_ift (pc' := 73) kc_59_59 rfl (xc_ne_t (X := x4.toInt) (Y := 0) rfl (by decide) (by omega)) ?_
                refine xi_iconst (pc' := 74) (v := 1) kc_59_73 rfl rfl ?_
                refine xi_goto (pc' := 78) kc_59_74 rfl ?_
                refine xi_istore (pc' := 80) (lv' := [(4, .int 1), (3, .int 0), (0, .ref 115), (1, .int x1), (2, .int x2), (5, .int x5)]) kc_59_78 rfl rfl (xm_lt ml_59 rfl) ?_
                obtain ⟨v47, ev47⟩ : ∃ q : Int32, x5 + 1 = q := ⟨_, rfl⟩
                have zv47 : v47.toInt = (x5.toInt + 1) := by rw [← ev47]; exact (xz_add (X := x5.toInt) (Y := 1) rfl (by decide) (by omega) (by omega)).trans (by omega)
                refine xi_iinc (pc' := 83) (x := x5) (v := v47) (lv' := [(5, .int v47), (4, .int 1), (3, .int 0), (0, .ref 115), (1, .int x1), (2, .int x2)]) kc_59_80 rfl rfl ev47 rfl (xm_lt ml_59 rfl) ?_
                refine xi_goto (pc' := 8) kc_59_83 rfl ?_
                have zc0 : (0 : Int32).toInt = 0 := by decide
                have zc1 : (1 : Int32).toInt = 1 := by decide
                refine xw_lv (b := [(0, .ref 115), (1, .int x1), (2, .int x2), (3, .int 0), (4, .int 1), (5, .int v47)]) (lvS_cons (lvS_cons (lvS_cons (lvS_cons (lvS_cons (lvS_cons (lvS_nil (show ([5, 4, 3, 0, 1, 2] : List Nat).Nodup by decide)) rfl) rfl) rfl) rfl) rfl) rfl) ?_
                exact i0 x1 x2 0 1 v47 hh21 (by omega) (by omega) (by omega) (by omega) (by omega) K23 (by omega)
            · refine xi_iff (pc' := 11) kc_54_8 rfl (xc_eq_f (X := v43.toInt) (Y := 0) rfl (by decide) (by omega)) ?_
              refine xi_iconst (pc' := 12) (v := 1) kc_54_11 rfl rfl ?_
              refine xi_goto (pc' := 16) kc_54_12 rfl ?_
              refine xi_ireturn kc_54_16 mr_54 rfl ?_
              show xw J ov (d + 3) 59 (47, [(0, .ref 115), (1, .int x1), (2, .int x2), (3, .int x3), (4, .int x4), (5, .int x5)], [.int 1], hh21) _
              refine xi_iconst (pc' := 48) (v := 1) kc_59_47 rfl rfl ?_
              refine xi_cmf (pc' := 51) kc_59_48 rfl rfl ?_
              refine xi_iconst (pc' := 52) (v := 1) kc_59_51 rfl rfl ?_
              refine xi_goto (pc' := 56) kc_59_52 rfl ?_
              refine xi_istore_n (pc' := 57) (lv' := [(3, .int 1), (0, .ref 115), (1, .int x1), (2, .int x2), (4, .int x4), (5, .int x5)]) kc_59_56 rfl rfl (xm_lt ml_59 rfl) ?_
              refine xi_iload (pc' := 59) (x := x4) kc_59_57 rfl rfl ?_
              by_cases c48 : x4.toInt = 0
              · refine xi_iff (pc' := 62) kc_59_59 rfl (xc_ne_f (X := x4.toInt) (Y := 0) rfl (by decide) (by omega)) ?_
                refine xi_aload_n (pc' := 63) (x := 115) kc_59_62 rfl rfl ?_
                refine xi_iload_n (pc' := 64) (x := x2) kc_59_63 rfl rfl ?_
                refine xi_iload (pc' := 66) (x := x5) kc_59_64 rfl rfl ?_
                refine xi_virtual (mj := 54) (as := [.int x2, .int x5]) (st1 := []) (lv0 := [(0, .ref 115), (1, .int x2), (2, .int x5)]) kc_59_66 rfl rfl rfl rfl rfl A37 (Nat.le_of_ble_eq_true rfl) (hJ _ _ _ _ (by decide)) (xm_le ml_54 rfl) rfl ?_
                refine xi_aload_n (pc' := 1) (x := 115) kc_54_0 rfl rfl ?_
                refine xi_getfield (pc' := 4) (v := .ref 152) kc_54_1 rfl rfl rfl A37 rfl ?_
                refine xi_iload_n (pc' := 5) (x := x2) kc_54_4 rfl rfl ?_
                refine xi_iaload (pc' := 6) (v := v42) kc_54_5 rfl A41 (by decide) rfl (xi_in (by omega) (by rw [hy41]; omega)) ev42 ?_
                refine xi_iload_n (pc' := 7) (x := x5) kc_54_6 rfl rfl ?_
                refine xi_iand (pc' := 8) (v := v43) kc_54_7 rfl ev43 ?_
                refine xi_iff (pc' := 11) kc_54_8 rfl (xc_eq_f (X := v43.toInt) (Y := 0) rfl (by decide) (by omega)) ?_
                refine xi_iconst (pc' := 12) (v := 1) kc_54_11 rfl rfl ?_
                refine xi_goto (pc' := 16) kc_54_12 rfl ?_
                refine xi_ireturn kc_54_16 mr_54 rfl ?_
                show xw J ov (d + 3) 59 (69, [(3, .int 1), (0, .ref 115), (1, .int x1), (2, .int x2), (4, .int x4), (5, .int x5)], [.int 1], hh21) _
                refine xi_iconst (pc' := 70) (v := 2) kc_59_69 rfl rfl ?_
                refine xi_cmt (pc' := 77) kc_59_70 rfl rfl ?_
                refine xi_iconst (pc' := 78) (v := 0) kc_59_77 rfl rfl ?_
                refine xi_istore (pc' := 80) (lv' := [(4, .int 0), (3, .int 1), (0, .ref 115), (1, .int x1), (2, .int x2), (5, .int x5)]) kc_59_78 rfl rfl (xm_lt ml_59 rfl) ?_
                obtain ⟨v49, ev49⟩ : ∃ q : Int32, x5 + 1 = q := ⟨_, rfl⟩
                have zv49 : v49.toInt = (x5.toInt + 1) := by rw [← ev49]; exact (xz_add (X := x5.toInt) (Y := 1) rfl (by decide) (by omega) (by omega)).trans (by omega)
                refine xi_iinc (pc' := 83) (x := x5) (v := v49) (lv' := [(5, .int v49), (4, .int 0), (3, .int 1), (0, .ref 115), (1, .int x1), (2, .int x2)]) kc_59_80 rfl rfl ev49 rfl (xm_lt ml_59 rfl) ?_
                refine xi_goto (pc' := 8) kc_59_83 rfl ?_
                have zc0 : (0 : Int32).toInt = 0 := by decide
                have zc1 : (1 : Int32).toInt = 1 := by decide
                refine xw_lv (b := [(0, .ref 115), (1, .int x1), (2, .int x2), (3, .int 1), (4, .int 0), (5, .int v49)]) (lvS_cons (lvS_cons (lvS_cons (lvS_cons (lvS_cons (lvS_cons (lvS_nil (show ([5, 4, 3, 0, 1, 2] : List Nat).Nodup by decide)) rfl) rfl) rfl) rfl) rfl) rfl) ?_
                exact i0 x1 x2 1 0 v49 hh21 (by omega) (by omega) (by omega) (by omega) (by omega) K23 (by omega)
              · refine xi_ift (pc' := 73) kc_59_59 rfl (xc_ne_t (X := x4.toInt) (Y := 0) rfl (by decide) (by omega)) ?_
                refine xi_iconst (pc' := 74) (v := 1) kc_59_73 rfl rfl ?_
                refine xi_goto (pc' := 78) kc_59_74 rfl ?_
                refine xi_istore (pc' := 80) (lv' := [(4, .int 1), (3, .int 1), (0, .ref 115), (1, .int x1), (2, .int x2), (5, .int x5)]) kc_59_78 rfl rfl (xm_lt ml_59 rfl) ?_
                obtain ⟨v50, ev50⟩ : ∃ q : Int32, x5 + 1 = q := ⟨_, rfl⟩
                have zv50 : v50.toInt = (x5.toInt + 1) := by rw [← ev50]; exact (xz_add (X := x5.toInt) (Y := 1) rfl (by decide) (by omega) (by omega)).trans (by omega)
                refine xi_iinc (pc' := 83) (x := x5) (v := v50) (lv' := [(5, .int v50), (4, .int 1), (3, .int 1), (0, .ref 115), (1, .int x1), (2, .int x2)]) kc_59_80 rfl rfl ev50 rfl (xm_lt ml_59 rfl) ?_
                refine xi_goto (pc' := 8) kc_59_83 rfl ?_
                have zc1 : (1 : Int32).toInt = 1 := by decide
                refine xw_lv (b := [(0, .ref 115), (1, .int x1), (2, .int x2), (3, .int 1), (4, .int 1), (5, .int v50)]) (lvS_cons (lvS_cons (lvS_cons (lvS_cons (lvS_cons (lvS_cons (lvS_nil (show ([5, 4, 3, 0, 1, 2] : List Nat).Nodup by decide)) rfl) rfl) rfl) rfl) rfl) rfl) ?_
                exact i0 x1 x2 1 1 v50 hh21 (by omega) (by omega) (by omega) (by omega) (by omega) K23 (by omega)
        · refine xi_iff (pc' := 21) kc_59_18 rfl (xc_eq_f (X := x3.toInt) (Y := 0) rfl (by decide) (by omega)) ?_
          refine xi_iload (pc' := 23) (x := x4) kc_59_21 rfl rfl ?_
          by_cases c51 : x4.toInt = 0
          · refine xi_iff (pc' := 26) kc_59_23 rfl (xc_ne_f (X := x4.toInt) (Y := 0) rfl (by decide) (by omega)) ?_
            refine xi_aload_n (pc' := 27) (x := 115) kc_59_26 rfl rfl ?_
            refine xi_iload (pc' := 29) (x := x5) kc_59_27 rfl rfl ?_
            refine xi_iload_n (pc' := 30) (x := x1) kc_59_29 rfl rfl ?_
            refine xi_virtual (mj := 60) (as := [.int x5, .int x1]) (st1 := []) (lv0 := [(0, .ref 115), (1, .int x5), (2, .int x1)]) kc_59_30 rfl rfl rfl rfl rfl A14 (Nat.le_of_ble_eq_true rfl) (hJ _ _ _ _ (by decide)) (xm_le ml_60 rfl) rfl ?_
            refine mt_60_0 hJ hov1 hov2 (d := d) (x1 := x5) (x2 := x1) K.1 (by first | omega | decide) (by first | omega | decide) (fun r52 hh53 br52 K54 => ?_)
            have K55 := xk_tr K K54 rfl
            obtain ⟨u56, u57, u58, u59, u60, u61, u62, u63, u64, u65, u66, u67, u68, bu56, bu57, bu58, bu59, bu60, bu61, bu62, bu63, bu64, bu65, bu66, bu67, bu68, A69⟩ := xq_115 K55.1
            have e70 : u2 = u57 := xk_eqi (q := 1) K54 rfl A14 A69 rfl rfl
            subst e70
            show xw J ov (d + 3) 59 (33, [(0, .ref 115), (1, .int x1), (2, .int x2), (3, .int x3), (4, .int x4), (5, .int x5)], [.int r52], hh53) _
            by_cases c71 : r52.toInt = 0
            · refine xi_ift (pc' := 80) kc_59_33 rfl (xc_eq_t (X := r52.toInt) (Y := 0) rfl (by decide) (by omega)) ?_
              obtain ⟨v72, ev72⟩ : ∃ q : Int32, x5 + 1 = q := ⟨_, rfl⟩
              have zv72 : v72.toInt = (x5.toInt + 1) := by rw [← ev72]; exact (xz_add (X := x5.toInt) (Y := 1) rfl (by decide) (by omega) (by omega)).trans (by omega)
              refine xi_iinc (pc' := 83) (x := x5) (v := v72) (lv' := [(5, .int v72), (0, .ref 115), (1, .int x1), (2, .int x2), (3, .int x3), (4, .int x4)]) kc_59_80 rfl rfl ev72 rfl (xm_lt ml_59 rfl) ?_
              refine xi_goto (pc' := 8) kc_59_83 rfl ?_
              refine xw_lv (b := [(0, .ref 115), (1, .int x1), (2, .int x2), (3, .int x3), (4, .int x4), (5, .int v72)]) (lvS_cons (lvS_cons (lvS_cons (lvS_cons (lvS_cons (lvS_cons (lvS_nil (show ([5, 0, 1, 2, 3, 4] : List Nat).Nodup by decide)) rfl) rfl) rfl) rfl) rfl) rfl) ?_
              exact i0 x1 x2 x3 x4 v72 hh53 (by omega) (by omega) (by omega) (by omega) (by omega) K55 (by omega)
            · refine xi_iff (pc' := 36) kc_59_33 rfl (xc_eq_f (X := r52.toInt) (Y := 0) rfl (by decide) (by omega)) ?_
              refine xi_iload_n (pc' := 37) (x := x3) kc_59_36 rfl rfl ?_
              refine xi_ift (pc' := 51) kc_59_37 rfl (xc_ne_t (X := x3.toInt) (Y := 0) rfl (by decide) (by omega)) ?_
              refine xi_iconst (pc' := 52) (v := 1) kc_59_51 rfl rfl ?_
              refine xi_goto (pc' := 56) kc_59_52 rfl ?_
              refine xi_istore_n (pc' := 57) (lv' := [(3, .int 1), (0, .ref 115), (1, .int x1), (2, .int x2), (4, .int x4), (5, .int x5)]) kc_59_56 rfl rfl (xm_lt ml_59 rfl) ?_
              refine xi_iload (pc' := 59) (x := x4) kc_59_57 rfl rfl ?_
              refine xi_iff (pc' := 62) kc_59_59 rfl (xc_ne_f (X := x4.toInt) (Y := 0) rfl (by decide) (by omega)) ?_
              refine xi_aload_n (pc' := 63) (x := 115) kc_59_62 rfl rfl ?_
              refine xi_iload_n (pc' := 64) (x := x2) kc_59_63 rfl rfl ?_
              refine xi_iload (pc' := 66) (x := x5) kc_59_64 rfl rfl ?_
              refine xi_virtual (mj := 54) (as := [.int x2, .int x5]) (st1 := []) (lv0 := [(0, .ref 115), (1, .int x2), (2, .int x5)]) kc_59_66 rfl rfl rfl rfl rfl A69 (Nat.le_of_ble_eq_true rfl) (hJ _ _ _ _ (by decide)) (xm_le ml_54 rfl) rfl ?_
              refine xi_aload_n (pc' := 1) (x := 115) kc_54_0 rfl rfl ?_
              refine xi_getfield (pc' := 4) (v := .ref 152) kc_54_1 rfl rfl rfl A69 rfl ?_
              refine xi_iload_n (pc' := 5) (x := x2) kc_54_4 rfl rfl ?_
              obtain ⟨y73, A73, hy73, ry73⟩ := xk_arr K55.1 xD_152
              obtain ⟨v74, ev74, bv74, dv74⟩ := xj_get hy73 ry73 (i := x2) (by omega) (by omega)
              refine xi_iaload (pc' := 6) (v := v74) kc_54_5 rfl A73 (by decide) rfl (xi_in (by omega) (by rw [hy73]; omega)) ev74 ?_
              refine xi_iload_n (pc' := 7) (x := x5) kc_54_6 rfl rfl ?_
              obtain ⟨v75, ev75⟩ : ∃ q : Int32, (v74 : Int32) &&& x5 = q := ⟨_, rfl⟩
              have rv75 := xc_rng v75
              refine xi_iand (pc' := 8) (v := v75) kc_54_7 rfl ev75 ?_
              by_cases c76 : v75.toInt = 0
              · refine xi_ift (pc' := 15) kc_54_8 rfl (xc_eq_t (X := v75.toInt) (Y := 0) rfl (by decide) (by omega)) ?_
                refine xi_iconst (pc' := 16) (v := 2) kc_54_15 rfl rfl ?_
                refine xi_ireturn kc_54_16 mr_54 rfl ?_
                show xw J ov (d + 3) 59 (69, [(3, .int 1), (0, .ref 115), (1, .int x1), (2, .int x2), (4, .int x4), (5, .int x5)], [.int 2], hh53) _
                refine xi_iconst (pc' := 70) (v := 2) kc_59_69 rfl rfl ?_
                refine xi_cmf (pc' := 73) kc_59_70 rfl rfl ?_
                refine xi_iconst (pc' := 74) (v := 1) kc_59_73 rfl rfl ?_
                refine xi_goto (pc' := 78) kc_59_74 rfl ?_
                refine xi_istore (pc' := 80) (lv' := [(4, .int 1), (3, .int 1), (0, .ref 115), (1, .int x1), (2, .int x2), (5, .int x5)]) kc_59_78 rfl rfl (xm_lt ml_59 rfl) ?_
                obtain ⟨v77, ev77⟩ : ∃ q : Int32, x5 + 1 = q := ⟨_, rfl⟩
                have zv77 : v77.toInt = (x5.toInt + 1) := by rw [← ev77]; exact (xz_add (X := x5.toInt) (Y := 1) rfl (by decide) (by omega) (by omega)).trans (by omega)
                refine xi_iinc (pc' := 83) (x := x5) (v := v77) (lv' := [(5, .int v77), (4, .int 1), (3, .int 1), (0, .ref 115), (1, .int x1), (2, .int x2)]) kc_59_80 rfl rfl ev77 rfl (xm_lt ml_59 rfl) ?_
                refine xi_goto (pc' := 8) kc_59_83 rfl ?_
                have zc1 : (1 : Int32).toInt = 1 := by decide
                refine xw_lv (b := [(0, .ref 115), (1, .int x1), (2, .int x2), (3, .int 1), (4, .int 1), (5, .int v77)]) (lvS_cons (lvS_cons (lvS_cons (lvS_cons (lvS_cons (lvS_cons (lvS_nil (show ([5, 4, 3, 0, 1, 2] : List Nat).Nodup by decide)) rfl) rfl) rfl) rfl) rfl) rfl) ?_
                exact i0 x1 x2 1 1 v77 hh53 (by omega) (by omega) (by omega) (by omega) (by omega) K55 (by omega)
              · refine xi_iff (pc' := 11) kc_54_8 rfl (xc_eq_f (X := v75.toInt) (Y := 0) rfl (by decide) (by omega)) ?_
                refine xi_iconst (pc' := 12) (v := 1) kc_54_11 rfl rfl ?_
                refine xi_goto (pc' := 16) kc_54_12 rfl ?_
                refine xi_ireturn kc_54_16 mr_54 rfl ?_
                show xw J ov (d + 3) 59 (69, [(3, .int 1), (0, .ref 115), (1, .int x1), (2, .int x2), (4, .int x4), (5, .int x5)], [.int 1], hh53) _
                refine xi_iconst (pc' := 70) (v := 2) kc_59_69 rfl rfl ?_
                refine xi_cmt (pc' := 77) kc_59_70 rfl rfl ?_
                refine xi_iconst (pc' := 78) (v := 0) kc_59_77 rfl rfl ?_
                refine xi_istore (pc' := 80) (lv' := [(4, .int 0), (3, .int 1), (0, .ref 115), (1, .int x1), (2, .int x2), (5, .int x5)]) kc_59_78 rfl rfl (xm_lt ml_59 rfl) ?_
                obtain ⟨v78, ev78⟩ : ∃ q : Int32, x5 + 1 = q := ⟨_, rfl⟩
                have zv78 : v78.toInt = (x5.toInt + 1) := by rw [← ev78]; exact (xz_add (X := x5.toInt) (Y := 1) rfl (by decide) (by omega) (by omega)).trans (by omega)
                refine xi_iinc (pc' := 83) (x := x5) (v := v78) (lv' := [(5, .int v78), (4, .int 0), (3, .int 1), (0, .ref 115), (1, .int x1), (2, .int x2)]) kc_59_80 rfl rfl ev78 rfl (xm_lt ml_59 rfl) ?_
                refine xi_goto (pc' := 8) kc_59_83 rfl ?_
                have zc0 : (0 : Int32).toInt = 0 := by decide
                have zc1 : (1 : Int32).toInt = 1 := by decide
                refine xw_lv (b := [(0, .ref 115), (1, .int x1), (2, .int x2), (3, .int 1), (4, .int 0), (5, .int v78)]) (lvS_cons (lvS_cons (lvS_cons (lvS_cons (lvS_cons (lvS_cons (lvS_nil (show ([5, 4, 3, 0, 1, 2] : List Nat).Nodup by decide)) rfl) rfl) rfl) rfl) rfl) rfl) ?_
                exact i0 x1 x2 1 0 v78 hh53 (by omega) (by omega) (by omega) (by omega) (by omega) K55 (by omega)
          · refine xi_ift (pc' := 86) kc_59_23 rfl (xc_ne_t (X := x4.toInt) (Y := 0) rfl (by decide) (by omega)) ?_
            refine xi_iload_n (pc' := 87) (x := x3) kc_59_86 rfl rfl ?_
            refine xi_iff (pc' := 90) kc_59_87 rfl (xc_eq_f (X := x3.toInt) (Y := 0) rfl (by decide) (by omega)) ?_
            refine xi_iload (pc' := 92) (x := x4) kc_59_90 rfl rfl ?_
            refine xi_iff (pc' := 95) kc_59_92 rfl (xc_eq_f (X := x4.toInt) (Y := 0) rfl (by decide) (by omega)) ?_
            refine xi_iconst (pc' := 96) (v := 1) kc_59_95 rfl rfl ?_
            refine xi_goto (pc' := 100) kc_59_96 rfl ?_
            refine xi_ireturn kc_59_100 mr_59 rfl ?_
            have zc1 : (1 : Int32).toInt = 1 := by decide
            exact kk 1 h (by omega) K
    · refine xi_cmf (pc' := 10) kc_42_7 rfl (xc_ge_f (X := u5.toInt) (Y := 6) rfl (by decide) (by omega)) ?_
      refine xi_aload_n (pc' := 11) (x := 115) kc_42_10 rfl rfl ?_
      refine xi_getfield (pc' := 14) (v := .int u5) kc_42_11 rfl rfl rfl A14 rfl ?_
      refine xi_goto (pc' := 19) kc_42_14 rfl ?_
      obtain ⟨v79, ev79⟩ : ∃ q : Int32, (1 : Int32) <<< (u5 &&& 31) = q := ⟨_, rfl⟩
      have rv79 := xc_rng v79
      have bv79 : 1 ≤ v79.toInt ∧ v79.toInt ≤ 64 := by rw [← ev79]; exact xj_shl6 (by omega) (by omega)
      refine xi_ishl (pc' := 20) (v := v79) kc_42_19 rfl ev79 ?_
      refine xi_ireturn kc_42_20 mr_42 rfl ?_
      show xw J ov (d + 3) 59 (14, [(0, .ref 115), (1, .int x1), (2, .int x2), (3, .int x3), (4, .int x4), (5, .int x5)], [.int v79, .int x5], h) _
      by_cases c80 : v79.toInt ≤ x5.toInt
      · refine xi_cmt (pc' := 86) kc_59_14 rfl (xc_ge_t (X := x5.toInt) (Y := v79.toInt) rfl rfl (by omega)) ?_
        refine xi_iload_n (pc' := 87) (x := x3) kc_59_86 rfl rfl ?_
        by_cases c81 : x3.toInt = 0
        · refine xi_ift (pc' := 99) kc_59_87 rfl (xc_eq_t (X := x3.toInt) (Y := 0) rfl (by decide) (by omega)) ?_
          refine xi_iconst (pc' := 100) (v := 0) kc_59_99 rfl rfl ?_
          refine xi_ireturn kc_59_100 mr_59 rfl ?_
          have zc0 : (0 : Int32).toInt = 0 := by decide
          exact kk 0 h (by omega) K
        · refine xi_iff (pc' := 90) kc_59_87 rfl (xc_eq_f (X := x3.toInt) (Y := 0) rfl (by decide) (by omega)) ?_
          refine xi_iload (pc' := 92) (x := x4) kc_59_90 rfl rfl ?_
          by_cases c82 : x4.toInt = 0
          · refine xi_ift (pc' := 99) kc_59_92 rfl (xc_eq_t (X := x4.toInt) (Y := 0) rfl (by decide) (by omega)) ?_
            refine xi_iconst (pc' := 100) (v := 0) kc_59_99 rfl rfl ?_
            refine xi_ireturn kc_59_100 mr_59 rfl ?_
            have zc0 : (0 : Int32).toInt = 0 := by decide
            exact kk 0 h (by omega) K
          · refine xi_iff (pc' := 95) kc_59_92 rfl (xc_eq_f (X := x4.toInt) (Y := 0) rfl (by decide) (by omega)) ?_
            refine xi_iconst (pc' := 96) (v := 1) kc_59_95 rfl rfl ?_
            refine xi_goto (pc' := 100) kc_59_96 rfl ?_
            refine xi_ireturn kc_59_100 mr_59 rfl ?_
            have zc1 : (1 : Int32).toInt = 1 := by decide
            exact kk 1 h (by omega) K
      · refine xi_cmf (pc' := 17) kc_59_14 rfl (xc_ge_f (X := x5.toInt) (Y := v79.toInt) rfl rfl (by omega)) ?_
        refine xi_iload_n (pc' := 18) (x := x3) kc_59_17 rfl rfl ?_
        by_cases c83 : x3.toInt = 0
        · refine xi_ift (pc' := 26) kc_59_18 rfl (xc_eq_t (X := x3.toInt) (Y := 0) rfl (by decide) (by omega)) ?_
          refine xi_aload_n (pc' := 27) (x := 115) kc_59_26 rfl rfl ?_
          refine xi_iload (pc' := 29) (x := x5) kc_59_27 rfl rfl ?_
          refine xi_iload_n (pc' := 30) (x := x1) kc_59_29 rfl rfl ?_
          refine xi_virtual (mj := 60) (as := [.int x5, .int x1]) (st1 := []) (lv0 := [(0, .ref 115), (1, .int x5), (2, .int x1)]) kc_59_30 rfl rfl rfl rfl rfl A14 (Nat.le_of_ble_eq_true rfl) (hJ _ _ _ _ (by decide)) (xm_le ml_60 rfl) rfl ?_
          refine mt_60_0 hJ hov1 hov2 (d := d) (x1 := x5) (x2 := x1) K.1 (by first | omega | decide) (by first | omega | decide) (fun r84 hh85 br84 K86 => ?_)
          have K87 := xk_tr K K86 rfl
          obtain ⟨u88, u89, u90, u91, u92, u93, u94, u95, u96, u97, u98, u99, u100, bu88, bu89, bu90, bu91, bu92, bu93, bu94, bu95, bu96, bu97, bu98, bu99, bu100, A101⟩ := xq_115 K87.1
          have e102 : u2 = u89 := xk_eqi (q := 1) K86 rfl A14 A101 rfl rfl
          subst e102
          show xw J ov (d + 3) 59 (33, [(0, .ref 115), (1, .int x1), (2, .int x2), (3, .int x3), (4, .int x4), (5, .int x5)], [.int r84], hh85) _
          by_cases c103 : r84.toInt = 0
          · refine xi_ift (pc' := 80) kc_59_33 rfl (xc_eq_t (X := r84.toInt) (Y := 0) rfl (by decide) (by omega)) ?_
            obtain ⟨v104, ev104⟩ : ∃ q : Int32, x5 + 1 = q := ⟨_, rfl⟩
            have zv104 : v104.toInt = (x5.toInt + 1) := by rw [← ev104]; exact (xz_add (X := x5.toInt) (Y := 1) rfl (by decide) (by omega) (by omega)).trans (by omega)
            refine xi_iinc (pc' := 83) (x := x5) (v := v104) (lv' := [(5, .int v104), (0, .ref 115), (1, .int x1), (2, .int x2), (3, .int x3), (4, .int x4)]) kc_59_80 rfl rfl ev104 rfl (xm_lt ml_59 rfl) ?_
            refine xi_goto (pc' := 8) kc_59_83 rfl ?_
            refine xw_lv (b := [(0, .ref 115), (1, .int x1), (2, .int x2), (3, .int x3), (4, .int x4), (5, .int v104)]) (lvS_cons (lvS_cons (lvS_cons (lvS_cons (lvS_cons (lvS_cons (lvS_nil (show ([5, 0, 1, 2, 3, 4] : List Nat).Nodup by decide)) rfl) rfl) rfl) rfl) rfl) rfl) ?_
            exact i0 x1 x2 x3 x4 v104 hh85 (by omega) (by omega) (by omega) (by omega) (by omega) K87 (by omega)
          · refine xi_iff (pc' := 36) kc_59_33 rfl (xc_eq_f (X := r84.toInt) (Y := 0) rfl (by decide) (by omega)) ?_
            refine xi_iload_n (pc' := 37) (x := x3) kc_59_36 rfl rfl ?_
            refine xi_iff (pc' := 40) kc_59_37 rfl (xc_ne_f (X := x3.toInt) (Y := 0) rfl (by decide) (by omega)) ?_
            refine xi_aload_n (pc' := 41) (x := 115) kc_59_40 rfl rfl ?_
            refine xi_iload_n (pc' := 42) (x := x2) kc_59_41 rfl rfl ?_
            refine xi_iload (pc' := 44) (x := x5) kc_59_42 rfl rfl ?_
            refine xi_virtual (mj := 54) (as := [.int x2, .int x5]) (st1 := []) (lv0 := [(0, .ref 115), (1, .int x2), (2, .int x5)]) kc_59_44 rfl rfl rfl rfl rfl A101 (Nat.le_of_ble_eq_true rfl) (hJ _ _ _ _ (by decide)) (xm_le ml_54 rfl) rfl ?_
            refine xi_aload_n (pc' := 1) (x := 115) kc_54_0 rfl rfl ?_
            refine xi_getfield (pc' := 4) (v := .ref 152) kc_54_1 rfl rfl rfl A101 rfl ?_
            refine xi_iload_n (pc' := 5) (x := x2) kc_54_4 rfl rfl ?_
            obtain ⟨y105, A105, hy105, ry105⟩ := xk_arr K87.1 xD_152
            obtain ⟨v106, ev106, bv106, dv106⟩ := xj_get hy105 ry105 (i := x2) (by omega) (by omega)
            refine xi_iaload (pc' := 6) (v := v106) kc_54_5 rfl A105 (by decide) rfl (xi_in (by omega) (by rw [hy105]; omega)) ev106 ?_
            refine xi_iload_n (pc' := 7) (x := x5) kc_54_6 rfl rfl ?_
            obtain ⟨v107, ev107⟩ : ∃ q : Int32, (v106 : Int32) &&& x5 = q := ⟨_, rfl⟩
            have rv107 := xc_rng v107
            refine xi_iand (pc' := 8) (v := v107) kc_54_7 rfl ev107 ?_
            by_cases c108 : v107.toInt = 0
            · refine xi_ift (pc' := 15) kc_54_8 rfl (xc_eq_t (X := v107.toInt) (Y := 0) rfl (by decide) (by omega)) ?_
              refine xi_iconst (pc' := 16) (v := 2) kc_54_15 rfl rfl ?_
              refine xi_ireturn kc_54_16 mr_54 rfl ?_
              show xw J ov (d + 3) 59 (47, [(0, .ref 115), (1, .int x1), (2, .int x2), (3, .int x3), (4, .int x4), (5, .int x5)], [.int 2], hh85) _
              refine xi_iconst (pc' := 48) (v := 1) kc_59_47 rfl rfl ?_
              refine xi_cmt (pc' := 55) kc_59_48 rfl rfl ?_
              refine xi_iconst (pc' := 56) (v := 0) kc_59_55 rfl rfl ?_
              refine xi_istore_n (pc' := 57) (lv' := [(3, .int 0), (0, .ref 115), (1, .int x1), (2, .int x2), (4, .int x4), (5, .int x5)]) kc_59_56 rfl rfl (xm_lt ml_59 rfl) ?_
              refine xi_iload (pc' := 59) (x := x4) kc_59_57 rfl rfl ?_
              by_cases c109 : x4.toInt = 0
              · refine xi_iff (pc' := 62) kc_59_59 rfl (xc_ne_f (X := x4.toInt) (Y := 0) rfl (by decide) (by omega)) ?_
                refine xi_aload_n (pc' := 63) (x := 115) kc_59_62 rfl rfl ?_
                refine xi_iload_n (pc' := 64) (x := x2) kc_59_63 rfl rfl ?_
                refine xi_iload (pc' := 66) (x := x5) kc_59_64 rfl rfl ?_
                refine xi_virtual (mj := 54) (as := [.int x2, .int x5]) (st1 := []) (lv0 := [(0, .ref 115), (1, .int x2), (2, .int x5)]) kc_59_66 rfl rfl rfl rfl rfl A101 (Nat.le_of_ble_eq_true rfl) (hJ _ _ _ _ (by decide)) (xm_le ml_54 rfl) rfl ?_
                refine xi_aload_n (pc' := 1) (x := 115) kc_54_0 rfl rfl ?_
                refine xi_getfield (pc' := 4) (v := .ref 152) kc_54_1 rfl rfl rfl A101 rfl ?_
                refine xi_iload_n (pc' := 5) (x := x2) kc_54_4 rfl rfl ?_
                refine xi_iaload (pc' := 6) (v := v106) kc_54_5 rfl A105 (by decide) rfl (xi_in (by omega) (by rw [hy105]; omega)) ev106 ?_
                refine xi_iload_n (pc' := 7) (x := x5) kc_54_6 rfl rfl ?_
                refine xi_iand (pc' := 8) (v := v107) kc_54_7 rfl ev107 ?_
                refine xi_ift (pc' := 15) kc_54_8 rfl (xc_eq_t (X := v107.toInt) (Y := 0) rfl (by decide) (by omega)) ?_
                refine xi_iconst (pc' := 16) (v := 2) kc_54_15 rfl rfl ?_
                refine xi_ireturn kc_54_16 mr_54 rfl ?_
                show xw J ov (d + 3) 59 (69, [(3, .int 0), (0, .ref 115), (1, .int x1), (2, .int x2), (4, .int x4), (5, .int x5)], [.int 2], hh85) _
                refine xi_iconst (pc' := 70) (v := 2) kc_59_69 rfl rfl ?_
                refine xi_cmf (pc' := 73) kc_59_70 rfl rfl ?_
                refine xi_iconst (pc' := 74) (v := 1) kc_59_73 rfl rfl ?_
                refine xi_goto (pc' := 78) kc_59_74 rfl ?_
                refine xi_istore (pc' := 80) (lv' := [(4, .int 1), (3, .int 0), (0, .ref 115), (1, .int x1), (2, .int x2), (5, .int x5)]) kc_59_78 rfl rfl (xm_lt ml_59 rfl) ?_
                obtain ⟨v110, ev110⟩ : ∃ q : Int32, x5 + 1 = q := ⟨_, rfl⟩
                have zv110 : v110.toInt = (x5.toInt + 1) := by rw [← ev110]; exact (xz_add (X := x5.toInt) (Y := 1) rfl (by decide) (by omega) (by omega)).trans (by omega)
                refine xi_iinc (pc' := 83) (x := x5) (v := v110) (lv' := [(5, .int v110), (4, .int 1), (3, .int 0), (0, .ref 115), (1, .int x1), (2, .int x2)]) kc_59_80 rfl rfl ev110 rfl (xm_lt ml_59 rfl) ?_
                refine xi_goto (pc' := 8) kc_59_83 rfl ?_
                have zc0 : (0 : Int32).toInt = 0 := by decide
                have zc1 : (1 : Int32).toInt = 1 := by decide
                refine xw_lv (b := [(0, .ref 115), (1, .int x1), (2, .int x2), (3, .int 0), (4, .int 1), (5, .int v110)]) (lvS_cons (lvS_cons (lvS_cons (lvS_cons (lvS_cons (lvS_cons (lvS_nil (show ([5, 4, 3, 0, 1, 2] : List Nat).Nodup by decide)) rfl) rfl) rfl) rfl) rfl) rfl) ?_
                exact i0 x1 x2 0 1 v110 hh85 (by omega) (by omega) (by omega) (by omega) (by omega) K87 (by omega)
              · refine xi_ift (pc' := 73) kc_59_59 rfl (xc_ne_t (X := x4.toInt) (Y := 0) rfl (by decide) (by omega)) ?_
                refine xi_iconst (pc' := 74) (v := 1) kc_59_73 rfl rfl ?_
                refine xi_goto (pc' := 78) kc_59_74 rfl ?_
                refine xi_istore (pc' := 80) (lv' := [(4, .int 1), (3, .int 0), (0, .ref 115), (1, .int x1), (2, .int x2), (5, .int x5)]) kc_59_78 rfl rfl (xm_lt ml_59 rfl) ?_
                obtain ⟨v111, ev111⟩ : ∃ q : Int32, x5 + 1 = q := ⟨_, rfl⟩
                have zv111 : v111.toInt = (x5.toInt + 1) := by rw [← ev111]; exact (xz_add (X := x5.toInt) (Y := 1) rfl (by decide) (by omega) (by omega)).trans (by omega)
                refine xi_iinc (pc' := 83) (x := x5) (v := v111) (lv' := [(5, .int v111), (4, .int 1), (3, .int 0), (0, .ref 115), (1, .int x1), (2, .int x2)]) kc_59_80 rfl rfl ev111 rfl (xm_lt ml_59 rfl) ?_
                refine xi_goto (pc' := 8) kc_59_83 rfl ?_
                have zc0 : (0 : Int32).toInt = 0 := by decide
                have zc1 : (1 : Int32).toInt = 1 := by decide
                refine xw_lv (b := [(0, .ref 115), (1, .int x1), (2, .int x2), (3, .int 0), (4, .int 1), (5, .int v111)]) (lvS_cons (lvS_cons (lvS_cons (lvS_cons (lvS_cons (lvS_cons (lvS_nil (show ([5, 4, 3, 0, 1, 2] : List Nat).Nodup by decide)) rfl) rfl) rfl) rfl) rfl) rfl) ?_
                exact i0 x1 x2 0 1 v111 hh85 (by omega) (by omega) (by omega) (by omega) (by omega) K87 (by omega)
            · refine xi_iff (pc' := 11) kc_54_8 rfl (xc_eq_f (X := v107.toInt) (Y := 0) rfl (by decide) (by omega)) ?_
              refine xi_iconst (pc' := 12) (v := 1) kc_54_11 rfl rfl ?_
              refine xi_goto (pc' := 16) kc_54_12 rfl ?_
              refine xi_ireturn kc_54_16 mr_54 rfl ?_
              show xw J ov (d + 3) 59 (47, [(0, .ref 115), (1, .int x1), (2, .int x2), (3, .int x3), (4, .int x4), (5, .int x5)], [.int 1], hh85) _
              refine xi_iconst (pc' := 48) (v := 1) kc_59_47 rfl rfl ?_
              refine xi_cmf (pc' := 51) kc_59_48 rfl rfl ?_
              refine xi_iconst (pc' := 52) (v := 1) kc_59_51 rfl rfl ?_
              refine xi_goto (pc' := 56) kc_59_52 rfl ?_
              refine xi_istore_n (pc' := 57) (lv' := [(3, .int 1), (0, .ref 115), (1, .int x1), (2, .int x2), (4, .int x4), (5, .int x5)]) kc_59_56 rfl rfl (xm_lt ml_59 rfl) ?_
              refine xi_iload (pc' := 59) (x := x4) kc_59_57 rfl rfl ?_
              by_cases c112 : x4.toInt = 0
              · refine xi_iff (pc' := 62) kc_59_59 rfl (xc_ne_f (X := x4.toInt) (Y := 0) rfl (by decide) (by omega)) ?_
                refine xi_aload_n (pc' := 63) (x := 115) kc_59_62 rfl rfl ?_
                refine xi_iload_n (pc' := 64) (x := x2) kc_59_63 rfl rfl ?_
                refine xi_iload (pc' := 66) (x := x5) kc_59_64 rfl rfl ?_
                refine xi_virtual (mj := 54) (as := [.int x2, .int x5]) (st1 := []) (lv0 := [(0, .ref 115), (1, .int x2), (2, .int x5)]) kc_59_66 rfl rfl rfl rfl rfl A101 (Nat.le_of_ble_eq_true rfl) (hJ _ _ _ _ (by decide)) (xm_le ml_54 rfl) rfl ?_
                refine xi_aload_n (pc' := 1) (x := 115) kc_54_0 rfl rfl ?_
                refine xi_getfield (pc' := 4) (v := .ref 152) kc_54_1 rfl rfl rfl A101 rfl ?_
                refine xi_iload_n (pc' := 5) (x := x2) kc_54_4 rfl rfl ?_
                refine xi_iaload (pc' := 6) (v := v106) kc_54_5 rfl A105 (by decide) rfl (xi_in (by omega) (by rw [hy105]; omega)) ev106 ?_
                refine xi_iload_n (pc' := 7) (x := x5) kc_54_6 rfl rfl ?_
                refine xi_iand (pc' := 8) (v := v107) kc_54_7 rfl ev107 ?_
                refine xi_iff (pc' := 11) kc_54_8 rfl (xc_eq_f (X := v107.toInt) (Y := 0) rfl (by decide) (by omega)) ?_
                refine xi_iconst (pc' := 12) (v := 1) kc_54_11 rfl rfl ?_
                refine xi_goto (pc' := 16) kc_54_12 rfl ?_
                refine xi_ireturn kc_54_16 mr_54 rfl ?_
                show xw J ov (d + 3) 59 (69, [(3, .int 1), (0, .ref 115), (1, .int x1), (2, .int x2), (4, .int x4), (5, .int x5)], [.int 1], hh85) _
                refine xi_iconst (pc' := 70) (v := 2) kc_59_69 rfl rfl ?_
                refine xi_cmt (pc' := 77) kc_59_70 rfl rfl ?_
                refine xi_iconst (pc' := 78) (v := 0) kc_59_77 rfl rfl ?_
                refine xi_istore (pc' := 80) (lv' := [(4, .int 0), (3, .int 1), (0, .ref 115), (1, .int x1), (2, .int x2), (5, .int x5)]) kc_59_78 rfl rfl (xm_lt ml_59 rfl) ?_
                obtain ⟨v113, ev113⟩ : ∃ q : Int32, x5 + 1 = q := ⟨_, rfl⟩
                have zv113 : v113.toInt = (x5.toInt + 1) := by rw [← ev113]; exact (xz_add (X := x5.toInt) (Y := 1) rfl (by decide) (by omega) (by omega)).trans (by omega)
                refine xi_iinc (pc' := 83) (x := x5) (v := v113) (lv' := [(5, .int v113), (4, .int 0), (3, .int 1), (0, .ref 115), (1, .int x1), (2, .int x2)]) kc_59_80 rfl rfl ev113 rfl (xm_lt ml_59 rfl) ?_
                refine xi_goto (pc' := 8) kc_59_83 rfl ?_
                have zc0 : (0 : Int32).toInt = 0 := by decide
                have zc1 : (1 : Int32).toInt = 1 := by decide
                refine xw_lv (b := [(0, .ref 115), (1, .int x1), (2, .int x2), (3, .int 1), (4, .int 0), (5, .int v113)]) (lvS_cons (lvS_cons (lvS_cons (lvS_cons (lvS_cons (lvS_cons (lvS_nil (show ([5, 4, 3, 0, 1, 2] : List Nat).Nodup by decide)) rfl) rfl) rfl) rfl) rfl) rfl) ?_
                exact i0 x1 x2 1 0 v113 hh85 (by omega) (by omega) (by omega) (by omega) (by omega) K87 (by omega)
              · refine xi_ift (pc' := 73) kc_59_59 rfl (xc_ne_t (X := x4.toInt) (Y := 0) rfl (by decide) (by omega)) ?_
                refine xi_iconst (pc' := 74) (v := 1) kc_59_73 rfl rfl ?_
                refine xi_goto (pc' := 78) kc_59_74 rfl ?_
                refine xi_istore (pc' := 80) (lv' := [(4, .int 1), (3, .int 1), (0, .ref 115), (1, .int x1), (2, .int x2), (5, .int x5)]) kc_59_78 rfl rfl (xm_lt ml_59 rfl) ?_
                obtain ⟨v114, ev114⟩ : ∃ q : Int32, x5 + 1 = q := ⟨_, rfl⟩
                have zv114 : v114.toInt = (x5.toInt + 1) := by rw [← ev114]; exact (xz_add (X := x5.toInt) (Y := 1) rfl (by decide) (by omega) (by omega)).trans (by omega)
                refine xi_iinc (pc' := 83) (x := x5) (v := v114) (lv' := [(5, .int v114), (4, .int 1), (3, .int 1), (0, .ref 115), (1, .int x1), (2, .int x2)]) kc_59_80 rfl rfl ev114 rfl (xm_lt ml_59 rfl) ?_
                refine xi_goto (pc' := 8) kc_59_83 rfl ?_
                have zc1 : (1 : Int32).toInt = 1 := by decide
                refine xw_lv (b := [(0, .ref 115), (1, .int x1), (2, .int x2), (3, .int 1), (4, .int 1), (5, .int v114)]) (lvS_cons (lvS_cons (lvS_cons (lvS_cons (lvS_cons (lvS_cons (lvS_nil (show ([5, 4, 3, 0, 1, 2] : List Nat).Nodup by decide)) rfl) rfl) rfl) rfl) rfl) rfl) ?_
                exact i0 x1 x2 1 1 v114 hh85 (by omega) (by omega) (by omega) (by omega) (by omega) K87 (by omega)
        · refine xi_iff (pc' := 21) kc_59_18 rfl (xc_eq_f (X := x3.toInt) (Y := 0) rfl (by decide) (by omega)) ?_
          refine xi_iload (pc' := 23) (x := x4) kc_59_21 rfl rfl ?_
          by_cases c115 : x4.toInt = 0
          · refine xi_iff (pc' := 26) kc_59_23 rfl (xc_ne_f (X := x4.toInt) (Y := 0) rfl (by decide) (by omega)) ?_
            refine xi_aload_n (pc' := 27) (x := 115) kc_59_26 rfl rfl ?_
            refine xi_iload (pc' := 29) (x := x5) kc_59_27 rfl rfl ?_
            refine xi_iload_n (pc' := 30) (x := x1) kc_59_29 rfl rfl ?_
            refine xi_virtual (mj := 60) (as := [.int x5, .int x1]) (st1 := []) (lv0 := [(0, .ref 115), (1, .int x5), (2, .int x1)]) kc_59_30 rfl rfl rfl rfl rfl A14 (Nat.le_of_ble_eq_true rfl) (hJ _ _ _ _ (by decide)) (xm_le ml_60 rfl) rfl ?_
            refine mt_60_0 hJ hov1 hov2 (d := d) (x1 := x5) (x2 := x1) K.1 (by first | omega | decide) (by first | omega | decide) (fun r116 hh117 br116 K118 => ?_)
            have K119 := xk_tr K K118 rfl
            obtain ⟨u120, u121, u122, u123, u124, u125, u126, u127, u128, u129, u130, u131, u132, bu120, bu121, bu122, bu123, bu124, bu125, bu126, bu127, bu128, bu129, bu130, bu131, bu132, A133⟩ := xq_115 K119.1
            have e134 : u2 = u121 := xk_eqi (q := 1) K118 rfl A14 A133 rfl rfl
            subst e134
            show xw J ov (d + 3) 59 (33, [(0, .ref 115), (1, .int x1), (2, .int x2), (3, .int x3), (4, .int x4), (5, .int x5)], [.int r116], hh117) _
            by_cases c135 : r116.toInt = 0
            · refine xi_ift (pc' := 80) kc_59_33 rfl (xc_eq_t (X := r116.toInt) (Y := 0) rfl (by decide) (by omega)) ?_
              obtain ⟨v136, ev136⟩ : ∃ q : Int32, x5 + 1 = q := ⟨_, rfl⟩
              have zv136 : v136.toInt = (x5.toInt + 1) := by rw [← ev136]; exact (xz_add (X := x5.toInt) (Y := 1) rfl (by decide) (by omega) (by omega)).trans (by omega)
              refine xi_iinc (pc' := 83) (x := x5) (v := v136) (lv' := [(5, .int v136), (0, .ref 115), (1, .int x1), (2, .int x2), (3, .int x3), (4, .int x4)]) kc_59_80 rfl rfl ev136 rfl (xm_lt ml_59 rfl) ?_
              refine xi_goto (pc' := 8) kc_59_83 rfl ?_
              refine xw_lv (b := [(0, .ref 115), (1, .int x1), (2, .int x2), (3, .int x3), (4, .int x4), (5, .int v136)]) (lvS_cons (lvS_cons (lvS_cons (lvS_cons (lvS_cons (lvS_cons (lvS_nil (show ([5, 0, 1, 2, 3, 4] : List Nat).Nodup by decide)) rfl) rfl) rfl) rfl) rfl) rfl) ?_
              exact i0 x1 x2 x3 x4 v136 hh117 (by omega) (by omega) (by omega) (by omega) (by omega) K119 (by omega)
            · refine xi_iff (pc' := 36) kc_59_33 rfl (xc_eq_f (X := r116.toInt) (Y := 0) rfl (by decide) (by omega)) ?_
              refine xi_iload_n (pc' := 37) (x := x3) kc_59_36 rfl rfl ?_
              refine xi_ift (pc' := 51) kc_59_37 rfl (xc_ne_t (X := x3.toInt) (Y := 0) rfl (by decide) (by omega)) ?_
              refine xi_iconst (pc' := 52) (v := 1) kc_59_51 rfl rfl ?_
              refine xi_goto (pc' := 56) kc_59_52 rfl ?_
              refine xi_istore_n (pc' := 57) (lv' := [(3, .int 1), (0, .ref 115), (1, .int x1), (2, .int x2), (4, .int x4), (5, .int x5)]) kc_59_56 rfl rfl (xm_lt ml_59 rfl) ?_
              refine xi_iload (pc' := 59) (x := x4) kc_59_57 rfl rfl ?_
              refine xi_iff (pc' := 62) kc_59_59 rfl (xc_ne_f (X := x4.toInt) (Y := 0) rfl (by decide) (by omega)) ?_
              refine xi_aload_n (pc' := 63) (x := 115) kc_59_62 rfl rfl ?_
              refine xi_iload_n (pc' := 64) (x := x2) kc_59_63 rfl rfl ?_
              refine xi_iload (pc' := 66) (x := x5) kc_59_64 rfl rfl ?_
              refine xi_virtual (mj := 54) (as := [.int x2, .int x5]) (st1 := []) (lv0 := [(0, .ref 115), (1, .int x2), (2, .int x5)]) kc_59_66 rfl rfl rfl rfl rfl A133 (Nat.le_of_ble_eq_true rfl) (hJ _ _ _ _ (by decide)) (xm_le ml_54 rfl) rfl ?_
              refine xi_aload_n (pc' := 1) (x := 115) kc_54_0 rfl rfl ?_
              refine xi_getfield (pc' := 4) (v := .ref 152) kc_54_1 rfl rfl rfl A133 rfl ?_
              refine xi_iload_n (pc' := 5) (x := x2) kc_54_4 rfl rfl ?_
              obtain ⟨y137, A137, hy137, ry137⟩ := xk_arr K119.1 xD_152
              obtain ⟨v138, ev138, bv138, dv138⟩ := xj_get hy137 ry137 (i := x2) (by omega) (by omega)
              refine xi_iaload (pc' := 6) (v := v138) kc_54_5 rfl A137 (by decide) rfl (xi_in (by omega) (by rw [hy137]; omega)) ev138 ?_
              refine xi_iload_n (pc' := 7) (x := x5) kc_54_6 rfl rfl ?_
              obtain ⟨v139, ev139⟩ : ∃ q : Int32, (v138 : Int32) &&& x5 = q := ⟨_, rfl⟩
              have rv139 := xc_rng v139
              refine xi_iand (pc' := 8) (v := v139) kc_54_7 rfl ev139 ?_
              by_cases c140 : v139.toInt = 0
              · refine xi_ift (pc' := 15) kc_54_8 rfl (xc_eq_t (X := v139.toInt) (Y := 0) rfl (by decide) (by omega)) ?_
                refine xi_iconst (pc' := 16) (v := 2) kc_54_15 rfl rfl ?_
                refine xi_ireturn kc_54_16 mr_54 rfl ?_
                show xw J ov (d + 3) 59 (69, [(3, .int 1), (0, .ref 115), (1, .int x1), (2, .int x2), (4, .int x4), (5, .int x5)], [.int 2], hh117) _
                refine xi_iconst (pc' := 70) (v := 2) kc_59_69 rfl rfl ?_
                refine xi_cmf (pc' := 73) kc_59_70 rfl rfl ?_
                refine xi_iconst (pc' := 74) (v := 1) kc_59_73 rfl rfl ?_
                refine xi_goto (pc' := 78) kc_59_74 rfl ?_
                refine xi_istore (pc' := 80) (lv' := [(4, .int 1), (3, .int 1), (0, .ref 115), (1, .int x1), (2, .int x2), (5, .int x5)]) kc_59_78 rfl rfl (xm_lt ml_59 rfl) ?_
                obtain ⟨v141, ev141⟩ : ∃ q : Int32, x5 + 1 = q := ⟨_, rfl⟩
                have zv141 : v141.toInt = (x5.toInt + 1) := by rw [← ev141]; exact (xz_add (X := x5.toInt) (Y := 1) rfl (by decide) (by omega) (by omega)).trans (by omega)
                refine xi_iinc (pc' := 83) (x := x5) (v := v141) (lv' := [(5, .int v141), (4, .int 1), (3, .int 1), (0, .ref 115), (1, .int x1), (2, .int x2)]) kc_59_80 rfl rfl ev141 rfl (xm_lt ml_59 rfl) ?_
                refine xi_goto (pc' := 8) kc_59_83 rfl ?_
                have zc1 : (1 : Int32).toInt = 1 := by decide
                refine xw_lv (b := [(0, .ref 115), (1, .int x1), (2, .int x2), (3, .int 1), (4, .int 1), (5, .int v141)]) (lvS_cons (lvS_cons (lvS_cons (lvS_cons (lvS_cons (lvS_cons (lvS_nil (show ([5, 4, 3, 0, 1, 2] : List Nat).Nodup by decide)) rfl) rfl) rfl) rfl) rfl) rfl) ?_
                exact i0 x1 x2 1 1 v141 hh117 (by omega) (by omega) (by omega) (by omega) (by omega) K119 (by omega)
              · refine xi_iff (pc' := 11) kc_54_8 rfl (xc_eq_f (X := v139.toInt) (Y := 0) rfl (by decide) (by omega)) ?_
                refine xi_iconst (pc' := 12) (v := 1) kc_54_11 rfl rfl ?_
                refine xi_goto (pc' := 16) kc_54_12 rfl ?_
                refine xi_ireturn kc_54_16 mr_54 rfl ?_
                show xw J ov (d + 3) 59 (69, [(3, .int 1), (0, .ref 115), (1, .int x1), (2, .int x2), (4, .int x4), (5, .int x5)], [.int 1], hh117) _
                refine xi_iconst (pc' := 70) (v := 2) kc_59_69 rfl rfl ?_
                refine xi_cmt (pc' := 77) kc_59_70 rfl rfl ?_
                refine xi_iconst (pc' := 78) (v := 0) kc_59_77 rfl rfl ?_
                refine xi_istore (pc' := 80) (lv' := [(4, .int 0), (3, .int 1), (0, .ref 115), (1, .int x1), (2, .int x2), (5, .int x5)]) kc_59_78 rfl rfl (xm_lt ml_59 rfl) ?_
                obtain ⟨v142, ev142⟩ : ∃ q : Int32, x5 + 1 = q := ⟨_, rfl⟩
                have zv142 : v142.toInt = (x5.toInt + 1) := by rw [← ev142]; exact (xz_add (X := x5.toInt) (Y := 1) rfl (by decide) (by omega) (by omega)).trans (by omega)
                refine xi_iinc (pc' := 83) (x := x5) (v := v142) (lv' := [(5, .int v142), (4, .int 0), (3, .int 1), (0, .ref 115), (1, .int x1), (2, .int x2)]) kc_59_80 rfl rfl ev142 rfl (xm_lt ml_59 rfl) ?_
                refine xi_goto (pc' := 8) kc_59_83 rfl ?_
                have zc0 : (0 : Int32).toInt = 0 := by decide
                have zc1 : (1 : Int32).toInt = 1 := by decide
                refine xw_lv (b := [(0, .ref 115), (1, .int x1), (2, .int x2), (3, .int 1), (4, .int 0), (5, .int v142)]) (lvS_cons (lvS_cons (lvS_cons (lvS_cons (lvS_cons (lvS_cons (lvS_nil (show ([5, 4, 3, 0, 1, 2] : List Nat).Nodup by decide)) rfl) rfl) rfl) rfl) rfl) rfl) ?_
                exact i0 x1 x2 1 0 v142 hh117 (by omega) (by omega) (by omega) (by omega) (by omega) K119 (by omega)
          · refine xi_ift (pc' := 86) kc_59_23 rfl (xc_ne_t (X := x4.toInt) (Y := 0) rfl (by decide) (by omega)) ?_
            refine xi_iload_n (pc' := 87) (x := x3) kc_59_86 rfl rfl ?_
            refine xi_iff (pc' := 90) kc_59_87 rfl (xc_eq_f (X := x3.toInt) (Y := 0) rfl (by decide) (by omega)) ?_
            refine xi_iload (pc' := 92) (x := x4) kc_59_90 rfl rfl ?_
            refine xi_iff (pc' := 95) kc_59_92 rfl (xc_eq_f (X := x4.toInt) (Y := 0) rfl (by decide) (by omega)) ?_
            refine xi_iconst (pc' := 96) (v := 1) kc_59_95 rfl rfl ?_
            refine xi_goto (pc' := 100) kc_59_96 rfl ?_
            refine xi_ireturn kc_59_100 mr_59 rfl ?_
            have zc1 : (1 : Int32).toInt = 1 := by decide
            exact kk 1 h (by omega) K
set_option maxHeartbeats 4000000 in
theorem mt_59_0 {J : xe_J} {ov : List (List Int32)} (hJ : ∀ d mj as h, mj ≠ xe_loff → J d mj as h = none) (hov1 : ov[1]? = some [10, 0, 0, 0, 0, 0]) (hov2 : ov[2]? = some [99, 30, 50, 50, 1, 99999]) {d : Nat} {Q : Option Value → xe_H → Prop} {h : xe_H} {x1 : Int32} {x2 : Int32} (T : xt h) (b1 : (0 ≤ x1.toInt ∧ x1.toInt ≤ 6560)) (b2 : (0 ≤ x2.toInt ∧ x2.toInt ≤ 7)) (kk : (∀ (r : Int32) (h' : xe_H), (0 ≤ r.toInt ∧ r.toInt ≤ 1) → xk [(0, 9), (115, 1), (83, 0), (6, 0), (123, 0), (9, 0), (124, 0), (7, 0), (10, 0), (5, 0), (8, 0)] h h' → Q (some (.int r)) h')) : xw J ov (d + 3) 59 (0, [(0, .ref 115), (1, .int x1), (2, .int x2)], [], h) Q := by
  have K : xk [(0, 9), (115, 1), (83, 0), (6, 0), (123, 0), (9, 0), (124, 0), (7, 0), (10, 0), (5, 0), (8, 0)] h h := xk_re T
  refine xi_iconst (pc' := 1) (v := 0) kc_59_0 rfl rfl ?_
  refine xi_istore_n (pc' := 2) (lv' := [(3, .int 0), (0, .ref 115), (1, .int x1), (2, .int x2)]) kc_59_1 rfl rfl (xm_lt ml_59 rfl) ?_
  refine xi_iconst (pc' := 3) (v := 0) kc_59_2 rfl rfl ?_
  refine xi_istore (pc' := 5) (lv' := [(4, .int 0), (3, .int 0), (0, .ref 115), (1, .int x1), (2, .int x2)]) kc_59_3 rfl rfl (xm_lt ml_59 rfl) ?_
  refine xi_iconst (pc' := 6) (v := 0) kc_59_5 rfl rfl ?_
  refine xi_istore (pc' := 8) (lv' := [(5, .int 0), (4, .int 0), (3, .int 0), (0, .ref 115), (1, .int x1), (2, .int x2)]) kc_59_6 rfl rfl (xm_lt ml_59 rfl) ?_
  have zc0 : (0 : Int32).toInt = 0 := by decide
  refine xw_lv (b := [(0, .ref 115), (1, .int x1), (2, .int x2), (3, .int 0), (4, .int 0), (5, .int 0)]) (lvS_cons (lvS_cons (lvS_cons (lvS_cons (lvS_cons (lvS_cons (lvS_nil (show ([5, 4, 3, 0, 1, 2] : List Nat).Nodup by decide)) rfl) rfl) rfl) rfl) rfl) rfl) ?_
  exact (lp_59_0 hJ hov1 hov2 (d := d) (hb := h) (fun r9 h9 b9 K9 => kk r9 h9 b9 (xk_tr K K9 rfl)) 65) x1 x2 0 0 0 h (by omega) (by omega) (by omega) (by omega) (by omega) (xk_re K.1) (by omega)
