set_option maxHeartbeats 4000000 in
theorem lp_60_0 {J : xe_J} {ov : List (List Int32)} (hJ : ∀ d mj as h, mj ≠ xe_loff → J d mj as h = none) (hov1 : ov[1]? = some [10, 0, 0, 0, 0, 0]) (hov2 : ov[2]? = some [99, 30, 50, 50, 1, 99999]) {d : Nat} {Q : Option Value → xe_H → Prop} {hb : xe_H} (kk : (∀ (r : Int32) (h' : xe_H), (0 ≤ r.toInt ∧ r.toInt ≤ 1) → xk xP_0 hb h' → Q (some (.int r)) h')) : ∀ m : Nat, (∀ (x1 : Int32) (x3 : Int32) (x4 : Int32) (x5 : Int32) (h : xe_H), (0 ≤ x1.toInt ∧ x1.toInt ≤ 63) → (0 ≤ x3.toInt ∧ x3.toInt ≤ 6560) → (0 ≤ x4.toInt ∧ x4.toInt ≤ 1) → (0 ≤ x5.toInt ∧ x5.toInt ≤ 8) → xk xP_0 hb h → (-1) * x5.toInt + 8 < (m : Int) → xw J ov (d + 2) 60 (12, [(0, .ref 115), (1, .int x1), (3, .int x3), (4, .int x4), (5, .int x5)], [], h) Q) := by
  intro m
  induction m with
  | zero =>
    intro x1 x3 x4 x5 h b1 b3 b4 b5 K hm; exfalso; omega
  | succ m ih =>
    have i0 := ih
    intro x1 x3 x4 x5 h b1 b3 b4 b5 K hm
    refine xi_iload (pc' := 14) (x := x5) kc_60_12 rfl rfl ?_
    refine xi_aload_n (pc' := 15) (x := 115) kc_60_14 rfl rfl ?_
    obtain ⟨u1, u2, u3, u4, u5, u6, u7, u8, u9, u10, u11, u12, u13, bu1, bu2, bu3, bu4, bu5, bu6, bu7, bu8, bu9, bu10, bu11, bu12, bu13, A14⟩ := xq_115 K.1
    refine xi_getfield (pc' := 18) (v := .int u10) kc_60_15 rfl rfl rfl A14 rfl ?_
    by_cases c15 : u10.toInt ≤ x5.toInt
    · refine xi_cmt (pc' := 62) kc_60_18 rfl (xc_ge_t (X := x5.toInt) (Y := u10.toInt) rfl rfl (by omega)) ?_
      refine xi_iload (pc' := 64) (x := x4) kc_60_62 rfl rfl ?_
      by_cases c16 : x4.toInt = 0
      · have qx4 : x4 = 0 := xc_of (Eq.trans (by omega) (show (0 : Int) = (0 : Int32).toInt by decide))
        subst qx4
        refine xi_ireturn kc_60_64 mr_60 rfl ?_
        have zc0 : (0 : Int32).toInt = 0 := by decide
        exact kk 0 h (by omega) K
      have qx4 : x4 = 1 := xc_of (Eq.trans (by omega) (show (1 : Int) = (1 : Int32).toInt by decide))
      subst qx4
      refine xi_ireturn kc_60_64 mr_60 rfl ?_
      have zc1 : (1 : Int32).toInt = 1 := by decide
      exact kk 1 h (by omega) K
    · refine xi_cmf (pc' := 21) kc_60_18 rfl (xc_ge_f (X := x5.toInt) (Y := u10.toInt) rfl rfl (by omega)) ?_
      refine xi_iload (pc' := 23) (x := x4) kc_60_21 rfl rfl ?_
      by_cases c17 : x4.toInt = 0
      · refine xi_ift (pc' := 62) kc_60_23 rfl (xc_eq_t (X := x4.toInt) (Y := 0) rfl (by decide) (by omega)) ?_
        refine xi_iload (pc' := 64) (x := x4) kc_60_62 rfl rfl ?_
        have qx4 : x4 = 0 := xc_of (Eq.trans (by omega) (show (0 : Int) = (0 : Int32).toInt by decide))
        subst qx4
        refine xi_ireturn kc_60_64 mr_60 rfl ?_
        have zc0 : (0 : Int32).toInt = 0 := by decide
        exact kk 0 h (by omega) K
      · refine xi_iff (pc' := 26) kc_60_23 rfl (xc_eq_f (X := x4.toInt) (Y := 0) rfl (by decide) (by omega)) ?_
        refine xi_iload_n (pc' := 27) (x := x3) kc_60_26 rfl rfl ?_
        refine xi_iconst (pc' := 28) (v := 3) kc_60_27 rfl rfl ?_
        obtain ⟨v18, ev18⟩ : ∃ q : Int32, x3 - x3 / 3 * 3 = q := ⟨_, rfl⟩
        have dv18 : v18.toInt = x3.toInt % 3 := by rw [← ev18]; exact xz_reme (X := x3.toInt) (Y := 3) rfl (by decide) (by omega) (by decide)
        have bv18 : 0 ≤ v18.toInt ∧ v18.toInt ≤ 2 := by omega
        refine xi_irem (pc' := 29) (v := v18) kc_60_28 rfl ev18 (by decide) ?_
        by_cases c19 : v18.toInt = 0
        · refine xi_ift (pc' := 45) kc_60_29 rfl (xc_eq_t (X := v18.toInt) (Y := 0) rfl (by decide) (by omega)) ?_
          refine xi_iconst (pc' := 46) (v := 1) kc_60_45 rfl rfl ?_
          refine xi_goto (pc' := 50) kc_60_46 rfl ?_
          refine xi_istore (pc' := 52) (lv' := [(4, .int 1), (0, .ref 115), (1, .int x1), (3, .int x3), (5, .int x5)]) kc_60_50 rfl rfl (xm_lt ml_60 rfl) ?_
          refine xi_iload_n (pc' := 53) (x := x3) kc_60_52 rfl rfl ?_
          refine xi_iconst (pc' := 54) (v := 3) kc_60_53 rfl rfl ?_
          obtain ⟨v20, ev20⟩ : ∃ q : Int32, x3 / 3 = q := ⟨_, rfl⟩
          have dv20 : v20.toInt = x3.toInt / 3 := by rw [← ev20]; exact xz_dive (X := x3.toInt) (Y := 3) rfl (by decide) (by omega) (by decide)
          have bv20 : 0 ≤ v20.toInt ∧ v20.toInt ≤ 2186 := by omega
          refine xi_idiv (pc' := 55) (v := v20) kc_60_54 rfl ev20 (by decide) ?_
          refine xi_istore_n (pc' := 56) (lv' := [(3, .int v20), (4, .int 1), (0, .ref 115), (1, .int x1), (5, .int x5)]) kc_60_55 rfl rfl (xm_lt ml_60 rfl) ?_
          obtain ⟨v21, ev21⟩ : ∃ q : Int32, x5 + 1 = q := ⟨_, rfl⟩
          have zv21 : v21.toInt = (x5.toInt + 1) := by rw [← ev21]; exact (xz_add (X := x5.toInt) (Y := 1) rfl (by decide) (by omega) (by omega)).trans (by omega)
          refine xi_iinc (pc' := 59) (x := x5) (v := v21) (lv' := [(5, .int v21), (3, .int v20), (4, .int 1), (0, .ref 115), (1, .int x1)]) kc_60_56 rfl rfl ev21 rfl (xm_lt ml_60 rfl) ?_
          refine xi_goto (pc' := 12) kc_60_59 rfl ?_
          have zc1 : (1 : Int32).toInt = 1 := by decide
          refine xw_lv (b := [(0, .ref 115), (1, .int x1), (3, .int v20), (4, .int 1), (5, .int v21)]) (lvS_cons (lvS_cons (lvS_cons (lvS_cons (lvS_cons (lvS_nil (show ([5, 3, 4, 0, 1] : List Nat).Nodup by decide)) rfl) rfl) rfl) rfl) rfl) ?_
          exact i0 x1 v20 1 v21 h (by omega) (by omega) (by omega) (by omega) K (by omega)
        · refine xi_iff (pc' := 32) kc_60_29 rfl (xc_eq_f (X := v18.toInt) (Y := 0) rfl (by decide) (by omega)) ?_
          refine xi_iload_n (pc' := 33) (x := x3) kc_60_32 rfl rfl ?_
          refine xi_iconst (pc' := 34) (v := 3) kc_60_33 rfl rfl ?_
          refine xi_irem (pc' := 35) (v := v18) kc_60_34 rfl ev18 (by decide) ?_
          refine xi_aload_n (pc' := 36) (x := 115) kc_60_35 rfl rfl ?_
          refine xi_iload (pc' := 38) (x := x5) kc_60_36 rfl rfl ?_
          refine xi_iload_n (pc' := 39) (x := x1) kc_60_38 rfl rfl ?_
          refine xi_virtual (mj := 54) (as := [.int x5, .int x1]) (st1 := [.int v18]) (lv0 := [(0, .ref 115), (1, .int x5), (2, .int x1)]) kc_60_39 rfl rfl rfl rfl rfl A14 (Nat.le_of_ble_eq_true rfl) (hJ _ _ _ _ (by decide)) (xm_le ml_54 rfl) rfl ?_
          refine xi_aload_n (pc' := 1) (x := 115) kc_54_0 rfl rfl ?_
          refine xi_getfield (pc' := 4) (v := .ref 152) kc_54_1 rfl rfl rfl A14 rfl ?_
          refine xi_iload_n (pc' := 5) (x := x5) kc_54_4 rfl rfl ?_
          obtain ⟨y22, A22, hy22, ry22⟩ := xk_arr K.1 xD_152
          obtain ⟨v23, ev23, bv23, dv23⟩ := xj_get hy22 ry22 (i := x5) (by omega) (by omega)
          refine xi_iaload (pc' := 6) (v := v23) kc_54_5 rfl A22 (by decide) rfl (xi_in (by omega) (by rw [hy22]; omega)) ev23 ?_
          refine xi_iload_n (pc' := 7) (x := x1) kc_54_6 rfl rfl ?_
          obtain ⟨v24, ev24⟩ : ∃ q : Int32, (v23 : Int32) &&& x1 = q := ⟨_, rfl⟩
          have rv24 := xc_rng v24
          refine xi_iand (pc' := 8) (v := v24) kc_54_7 rfl ev24 ?_
          by_cases c25 : v24.toInt = 0
          · refine xi_ift (pc' := 15) kc_54_8 rfl (xc_eq_t (X := v24.toInt) (Y := 0) rfl (by decide) (by omega)) ?_
            refine xi_iconst (pc' := 16) (v := 2) kc_54_15 rfl rfl ?_
            refine xi_ireturn kc_54_16 mr_54 rfl ?_
            show xw J ov (d + 2) 60 (42, [(0, .ref 115), (1, .int x1), (3, .int x3), (4, .int x4), (5, .int x5)], [.int 2, .int v18], h) _
            by_cases c26 : v18.toInt = 2
            · refine xi_cmf (pc' := 45) kc_60_42 rfl (xc_ne_f (X := v18.toInt) (Y := 2) rfl (by decide) (by omega)) ?_
              refine xi_iconst (pc' := 46) (v := 1) kc_60_45 rfl rfl ?_
              refine xi_goto (pc' := 50) kc_60_46 rfl ?_
              refine xi_istore (pc' := 52) (lv' := [(4, .int 1), (0, .ref 115), (1, .int x1), (3, .int x3), (5, .int x5)]) kc_60_50 rfl rfl (xm_lt ml_60 rfl) ?_
              refine xi_iload_n (pc' := 53) (x := x3) kc_60_52 rfl rfl ?_
              refine xi_iconst (pc' := 54) (v := 3) kc_60_53 rfl rfl ?_
              obtain ⟨v27, ev27⟩ : ∃ q : Int32, x3 / 3 = q := ⟨_, rfl⟩
              have dv27 : v27.toInt = x3.toInt / 3 := by rw [← ev27]; exact xz_dive (X := x3.toInt) (Y := 3) rfl (by decide) (by omega) (by decide)
              have bv27 : 0 ≤ v27.toInt ∧ v27.toInt ≤ 2186 := by omega
              refine xi_idiv (pc' := 55) (v := v27) kc_60_54 rfl ev27 (by decide) ?_
              refine xi_istore_n (pc' := 56) (lv' := [(3, .int v27), (4, .int 1), (0, .ref 115), (1, .int x1), (5, .int x5)]) kc_60_55 rfl rfl (xm_lt ml_60 rfl) ?_
              obtain ⟨v28, ev28⟩ : ∃ q : Int32, x5 + 1 = q := ⟨_, rfl⟩
              have zv28 : v28.toInt = (x5.toInt + 1) := by rw [← ev28]; exact (xz_add (X := x5.toInt) (Y := 1) rfl (by decide) (by omega) (by omega)).trans (by omega)
              refine xi_iinc (pc' := 59) (x := x5) (v := v28) (lv' := [(5, .int v28), (3, .int v27), (4, .int 1), (0, .ref 115), (1, .int x1)]) kc_60_56 rfl rfl ev28 rfl (xm_lt ml_60 rfl) ?_
              refine xi_goto (pc' := 12) kc_60_59 rfl ?_
              have zc1 : (1 : Int32).toInt = 1 := by decide
              refine xw_lv (b := [(0, .ref 115), (1, .int x1), (3, .int v27), (4, .int 1), (5, .int v28)]) (lvS_cons (lvS_cons (lvS_cons (lvS_cons (lvS_cons (lvS_nil (show ([5, 3, 4, 0, 1] : List Nat).Nodup by decide)) rfl) rfl) rfl) rfl) rfl) ?_
              exact i0 x1 v27 1 v28 h (by omega) (by omega) (by omega) (by omega) K (by omega)
            · refine xi_cmt (pc' := 49) kc_60_42 rfl (xc_ne_t (X := v18.toInt) (Y := 2) rfl (by decide) (by omega)) ?_
              refine xi_iconst (pc' := 50) (v := 0) kc_60_49 rfl rfl ?_
              refine xi_istore (pc' := 52) (lv' := [(4, .int 0), (0, .ref 115), (1, .int x1), (3, .int x3), (5, .int x5)]) kc_60_50 rfl rfl (xm_lt ml_60 rfl) ?_
              refine xi_iload_n (pc' := 53) (x := x3) kc_60_52 rfl rfl ?_
              refine xi_iconst (pc' := 54) (v := 3) kc_60_53 rfl rfl ?_
              obtain ⟨v29, ev29⟩ : ∃ q : Int32, x3 / 3 = q := ⟨_, rfl⟩
              have dv29 : v29.toInt = x3.toInt / 3 := by rw [← ev29]; exact xz_dive (X := x3.toInt) (Y := 3) rfl (by decide) (by omega) (by decide)
              have bv29 : 0 ≤ v29.toInt ∧ v29.toInt ≤ 2186 := by omega
              refine xi_idiv (pc' := 55) (v := v29) kc_60_54 rfl ev29 (by decide) ?_
              refine xi_istore_n (pc' := 56) (lv' := [(3, .int v29), (4, .int 0), (0, .ref 115), (1, .int x1), (5, .int x5)]) kc_60_55 rfl rfl (xm_lt ml_60 rfl) ?_
              obtain ⟨v30, ev30⟩ : ∃ q : Int32, x5 + 1 = q := ⟨_, rfl⟩
              have zv30 : v30.toInt = (x5.toInt + 1) := by rw [← ev30]; exact (xz_add (X := x5.toInt) (Y := 1) rfl (by decide) (by omega) (by omega)).trans (by omega)
              refine xi_iinc (pc' := 59) (x := x5) (v := v30) (lv' := [(5, .int v30), (3, .int v29), (4, .int 0), (0, .ref 115), (1, .int x1)]) kc_60_56 rfl rfl ev30 rfl (xm_lt ml_60 rfl) ?_
              refine xi_goto (pc' := 12) kc_60_59 rfl ?_
              have zc0 : (0 : Int32).toInt = 0 := by decide
              refine xw_lv (b := [(0, .ref 115), (1, .int x1), (3, .int v29), (4, .int 0), (5, .int v30)]) (lvS_cons (lvS_cons (lvS_cons (lvS_cons (lvS_cons (lvS_nil (show ([5, 3, 4, 0, 1] : List Nat).Nodup by decide)) rfl) rfl) rfl) rfl) rfl) ?_
              exact i0 x1 v29 0 v30 h (by omega) (by omega) (by omega) (by omega) K (by omega)
          · refine xi_iff (pc' := 11) kc_54_8 rfl (xc_eq_f (X := v24.toInt) (Y := 0) rfl (by decide) (by omega)) ?_
            refine xi_iconst (pc' := 12) (v := 1) kc_54_11 rfl rfl ?_
            refine xi_goto (pc' := 16) kc_54_12 rfl ?_
            refine xi_ireturn kc_54_16 mr_54 rfl ?_
            show xw J ov (d + 2) 60 (42, [(0, .ref 115), (1, .int x1), (3, .int x3), (4, .int x4), (5, .int x5)], [.int 1, .int v18], h) _
            by_cases c31 : v18.toInt = 1
            · refine xi_cmf (pc' := 45) kc_60_42 rfl (xc_ne_f (X := v18.toInt) (Y := 1) rfl (by decide) (by omega)) ?_
              refine xi_iconst (pc' := 46) (v := 1) kc_60_45 rfl rfl ?_
              refine xi_goto (pc' := 50) kc_60_46 rfl ?_
              refine xi_istore (pc' := 52) (lv' := [(4, .int 1), (0, .ref 115), (1, .int x1), (3, .int x3), (5, .int x5)]) kc_60_50 rfl rfl (xm_lt ml_60 rfl) ?_
              refine xi_iload_n (pc' := 53) (x := x3) kc_60_52 rfl rfl ?_
              refine xi_iconst (pc' := 54) (v := 3) kc_60_53 rfl rfl ?_
              obtain ⟨v32, ev32⟩ : ∃ q : Int32, x3 / 3 = q := ⟨_, rfl⟩
              have dv32 : v32.toInt = x3.toInt / 3 := by rw [← ev32]; exact xz_dive (X := x3.toInt) (Y := 3) rfl (by decide) (by omega) (by decide)
              have bv32 : 0 ≤ v32.toInt ∧ v32.toInt ≤ 2186 := by omega
              refine xi_idiv (pc' := 55) (v := v32) kc_60_54 rfl ev32 (by decide) ?_
              refine xi_istore_n (pc' := 56) (lv' := [(3, .int v32), (4, .int 1), (0, .ref 115), (1, .int x1), (5, .int x5)]) kc_60_55 rfl rfl (xm_lt ml_60 rfl) ?_
              obtain ⟨v33, ev33⟩ : ∃ q : Int32, x5 + 1 = q := ⟨_, rfl⟩
              have zv33 : v33.toInt = (x5.toInt + 1) := by rw [← ev33]; exact (xz_add (X := x5.toInt) (Y := 1) rfl (by decide) (by omega) (by omega)).trans (by omega)
              refine xi_iinc (pc' := 59) (x := x5) (v := v33) (lv' := [(5, .int v33), (3, .int v32), (4, .int 1), (0, .ref 115), (1, .int x1)]) kc_60_56 rfl rfl ev33 rfl (xm_lt ml_60 rfl) ?_
              refine xi_goto (pc' := 12) kc_60_59 rfl ?_
              have zc1 : (1 : Int32).toInt = 1 := by decide
              refine xw_lv (b := [(0, .ref 115), (1, .int x1), (3, .int v32), (4, .int 1), (5, .int v33)]) (lvS_cons (lvS_cons (lvS_cons (lvS_cons (lvS_cons (lvS_nil (show ([5, 3, 4, 0, 1] : List Nat).Nodup by decide)) rfl) rfl) rfl) rfl) rfl) ?_
              exact i0 x1 v32 1 v33 h (by omega) (by omega) (by omega) (by omega) K (by omega)
            · refine xi_cmt (pc' := 49) kc_60_42 rfl (xc_ne_t (X := v18.toInt) (Y := 1) rfl (by decide) (by omega)) ?_
              refine xi_iconst (pc' := 50) (v := 0) kc_60_49 rfl rfl ?_
              refine xi_istore (pc' := 52) (lv' := [(4, .int 0), (0, .ref 115), (1, .int x1), (3, .int x3), (5, .int x5)]) kc_60_50 rfl rfl (xm_lt ml_60 rfl) ?_
              refine xi_iload_n (pc' := 53) (x := x3) kc_60_52 rfl rfl ?_
              refine xi_iconst (pc' := 54) (v := 3) kc_60_53 rfl rfl ?_
              obtain ⟨v34, ev34⟩ : ∃ q : Int32, x3 / 3 = q := ⟨_, rfl⟩
              have dv34 : v34.toInt = x3.toInt / 3 := by rw [← ev34]; exact xz_dive (X := x3.toInt) (Y := 3) rfl (by decide) (by omega) (by decide)
              have bv34 : 0 ≤ v34.toInt ∧ v34.toInt ≤ 2186 := by omega
              refine xi_idiv (pc' := 55) (v := v34) kc_60_54 rfl ev34 (by decide) ?_
              refine xi_istore_n (pc' := 56) (lv' := [(3, .int v34), (4, .int 0), (0, .ref 115), (1, .int x1), (5, .int x5)]) kc_60_55 rfl rfl (xm_lt ml_60 rfl) ?_
              obtain ⟨v35, ev35⟩ : ∃ q : Int32, x5 + 1 = q := ⟨_, rfl⟩
              have zv35 : v35.toInt = (x5.toInt + 1) := by rw [← ev35]; exact (xz_add (X := x5.toInt) (Y := 1) rfl (by decide) (by omega) (by omega)).trans (by omega)
              refine xi_iinc (pc' := 59) (x := x5) (v := v35) (lv' := [(5, .int v35), (3, .int v34), (4, .int 0), (0, .ref 115), (1, .int x1)]) kc_60_56 rfl rfl ev35 rfl (xm_lt ml_60 rfl) ?_
              refine xi_goto (pc' := 12) kc_60_59 rfl ?_
              have zc0 : (0 : Int32).toInt = 0 := by decide
              refine xw_lv (b := [(0, .ref 115), (1, .int x1), (3, .int v34), (4, .int 0), (5, .int v35)]) (lvS_cons (lvS_cons (lvS_cons (lvS_cons (lvS_cons (lvS_nil (show ([5, 3, 4, 0, 1] : List Nat).Nodup by decide)) rfl) rfl) rfl) rfl) rfl) ?_
              exact i0 x1 v34 0 v35 h (by omega) (by omega) (by omega) (by omega) K (by omega)
set_option maxHeartbeats 4000000 in
theorem mt_60_0 {J : xe_J} {ov : List (List Int32)} (hJ : ∀ d mj as h, mj ≠ xe_loff → J d mj as h = none) (hov1 : ov[1]? = some [10, 0, 0, 0, 0, 0]) (hov2 : ov[2]? = some [99, 30, 50, 50, 1, 99999]) {d : Nat} {Q : Option Value → xe_H → Prop} {h : xe_H} {x1 : Int32} {x2 : Int32} (T : xt h) (b1 : (0 ≤ x1.toInt ∧ x1.toInt ≤ 63)) (b2 : (0 ≤ x2.toInt ∧ x2.toInt ≤ 6560)) (kk : (∀ (r : Int32) (h' : xe_H), (0 ≤ r.toInt ∧ r.toInt ≤ 1) → xk xP_0 h h' → Q (some (.int r)) h')) : xw J ov (d + 2) 60 (0, [(0, .ref 115), (1, .int x1), (2, .int x2)], [], h) Q := by
  have K : xk xP_0 h h := xk_re T
  refine xi_iload_n (pc' := 1) (x := x2) kc_60_0 rfl rfl ?_
  refine xi_istore_n (pc' := 2) (lv' := [(3, .int x2), (0, .ref 115), (1, .int x1), (2, .int x2)]) kc_60_1 rfl rfl (xm_lt ml_60 rfl) ?_
  refine xi_aload_n (pc' := 3) (x := 115) kc_60_2 rfl rfl ?_
  refine xi_iload_n (pc' := 4) (x := x1) kc_60_3 rfl rfl ?_
  obtain ⟨u1, u2, u3, u4, u5, u6, u7, u8, u9, u10, u11, u12, u13, bu1, bu2, bu3, bu4, bu5, bu6, bu7, bu8, bu9, bu10, bu11, bu12, bu13, A14⟩ := xq_115 K.1
  refine xi_virtual (mj := 53) (as := [.int x1]) (st1 := []) (lv0 := [(0, .ref 115), (1, .int x1)]) kc_60_4 rfl rfl rfl rfl rfl A14 (Nat.le_of_ble_eq_true rfl) (hJ _ _ _ _ (by decide)) (xm_le ml_53 rfl) rfl ?_
  refine mt_53_0 hJ hov1 hov2 (d := d) (x1 := x1) K.1 (by first | omega | decide) (fun r15 hh16 br15 K17 => ?_)
  have K18 := xk_tr K K17 (xsb_ok _ _ (by decide +kernel))
  obtain ⟨u19, u20, u21, u22, u23, u24, u25, u26, u27, u28, u29, u30, u31, bu19, bu20, bu21, bu22, bu23, bu24, bu25, bu26, bu27, bu28, bu29, bu30, bu31, A32⟩ := xq_115 K18.1
  have e33 : u2 = u20 := xk_eqi (q := 1) K17 (by decide +kernel) A14 A32 rfl rfl
  subst e33
  have e34 : u5 = u23 := xk_eqi (q := 23) K17 (by decide +kernel) A14 A32 rfl rfl
  subst e34
  have e35 : u8 = u26 := xk_eqi (q := 34) K17 (by decide +kernel) A14 A32 rfl rfl
  subst e35
  have e36 : u6 = u24 := xk_eqi (q := 32) K17 (by decide +kernel) A14 A32 rfl rfl
  subst e36
  show xw J ov (d + 2) 60 (7, [(3, .int x2), (0, .ref 115), (1, .int x1), (2, .int x2)], [.int r15], hh16) _
  refine xi_istore (pc' := 9) (lv' := [(4, .int r15), (3, .int x2), (0, .ref 115), (1, .int x1), (2, .int x2)]) kc_60_7 rfl rfl (xm_lt ml_60 rfl) ?_
  refine xi_iconst (pc' := 10) (v := 0) kc_60_9 rfl rfl ?_
  refine xi_istore (pc' := 12) (lv' := [(5, .int 0), (4, .int r15), (3, .int x2), (0, .ref 115), (1, .int x1), (2, .int x2)]) kc_60_10 rfl rfl (xm_lt ml_60 rfl) ?_
  have zc0 : (0 : Int32).toInt = 0 := by decide
  refine xw_lv (b := [(0, .ref 115), (1, .int x1), (3, .int x2), (4, .int r15), (5, .int 0)]) (lvS_cons (lvS_cons (lvS_cons (lvS_cons (lvS_cons (lvS_nil (show ([5, 4, 3, 0, 1, 2] : List Nat).Nodup by decide)) rfl) rfl) rfl) rfl) rfl) ?_
  exact (lp_60_0 hJ hov1 hov2 (d := d) (hb := hh16) (fun r9 h9 b9 K9 => kk r9 h9 b9 (xk_tr K18 K9 (xsb_ok _ _ (by decide +kernel)))) 9) x1 x2 r15 0 hh16 (by omega) (by omega) (by omega) (by omega) (xk_re K18.1) (by omega)
set_option maxHeartbeats 4000000 in
theorem lp_59_0 {J : xe_J} {ov : List (List Int32)} (hJ : ∀ d mj as h, mj ≠ xe_loff → J d mj as h = none) (hov1 : ov[1]? = some [10, 0, 0, 0, 0, 0]) (hov2 : ov[2]? = some [99, 30, 50, 50, 1, 99999]) {d : Nat} {Q : Option Value → xe_H → Prop} {hb : xe_H} (kk : (∀ (r : Int32) (h' : xe_H), (0 ≤ r.toInt ∧ r.toInt ≤ 1) → xk xP_0 hb h' → Q (some (.int r)) h')) : ∀ m : Nat, (∀ (x1 : Int32) (x2 : Int32) (x3 : Int32) (x4 : Int32) (x5 : Int32) (h : xe_H), (0 ≤ x1.toInt ∧ x1.toInt ≤ 6560) → (0 ≤ x2.toInt ∧ x2.toInt ≤ 7) → (0 ≤ x3.toInt ∧ x3.toInt ≤ 1) → (0 ≤ x4.toInt ∧ x4.toInt ≤ 1) → (0 ≤ x5.toInt ∧ x5.toInt ≤ 64) → xk xP_0 hb h → (-1) * x5.toInt + 64 < (m : Int) → xw J ov (d + 3) 59 (8, [(0, .ref 115), (1, .int x1), (2, .int x2), (3, .int x3), (4, .int x4), (5, .int x5)], [], h) Q) := by
  intro m
  induction m with
  | zero =>
    intro x1 x2 x3 x4 x5 h b1 b2 b3 b4 b5 K hm; exfalso; omega
  | succ m ih =>
    have i0 := ih
    intro x1 x2 x3 x4 x5 h b1 b2 b3 b4 b5 K hm
    refine xi_iload (pc' := 10) (x := x5) kc_59_8 rfl rfl ?_
    refine xi_aload_n (pc' := 11) (x := 115) kc_59_10 rfl rfl ?_
    obtain ⟨u1, u2, u3, u4, u5, u6, u7, u8, u9, u10, u11, u12, u13, bu1, bu2, bu3, bu4, bu5, bu6, bu7, bu8, bu9, bu10, bu11, bu12, bu13, A14⟩ := xq_115 K.1
    refine xi_virtual (mj := 42) (as := []) (st1 := [.int x5]) (lv0 := [(0, .ref 115)]) kc_59_11 rfl rfl rfl rfl rfl A14 (Nat.le_of_ble_eq_true rfl) (hJ _ _ _ _ (by decide)) (xm_le ml_42 rfl) rfl ?_
    refine xi_iconst (pc' := 1) (v := 1) kc_42_0 rfl rfl ?_
    refine xi_aload_n (pc' := 2) (x := 115) kc_42_1 rfl rfl ?_
    refine xi_getfield (pc' := 5) (v := .int u5) kc_42_2 rfl rfl rfl A14 rfl ?_
    refine xi_bipush (pc' := 7) (v := 6) kc_42_5 rfl rfl ?_
    by_cases c15 : 6 ≤ u5.toInt
    · refine xi_cmt (pc' := 17) kc_42_7 rfl (xc_ge_t (X := u5.toInt) (Y := 6) rfl (by decide) (by omega)) ?_
      refine xi_bipush (pc' := 19) (v := 6) kc_42_17 rfl rfl ?_
      refine xi_ishl (pc' := 20) (v := 64) kc_42_19 rfl rfl ?_
      refine xi_ireturn kc_42_20 mr_42 rfl ?_
      show xw J ov (d + 3) 59 (14, [(0, .ref 115), (1, .int x1), (2, .int x2), (3, .int x3), (4, .int x4), (5, .int x5)], [.int 64, .int x5], h) _
      by_cases c16 : 64 ≤ x5.toInt
      · refine xi_cmt (pc' := 86) kc_59_14 rfl (xc_ge_t (X := x5.toInt) (Y := 64) rfl (by decide) (by omega)) ?_
        refine xi_iload_n (pc' := 87) (x := x3) kc_59_86 rfl rfl ?_
        by_cases c17 : x3.toInt = 0
        · refine xi_ift (pc' := 99) kc_59_87 rfl (xc_eq_t (X := x3.toInt) (Y := 0) rfl (by decide) (by omega)) ?_
          refine xi_iconst (pc' := 100) (v := 0) kc_59_99 rfl rfl ?_
          refine xi_ireturn kc_59_100 mr_59 rfl ?_
          have zc0 : (0 : Int32).toInt = 0 := by decide
          exact kk 0 h (by omega) K
        · refine xi_iff (pc' := 90) kc_59_87 rfl (xc_eq_f (X := x3.toInt) (Y := 0) rfl (by decide) (by omega)) ?_
          refine xi_iload (pc' := 92) (x := x4) kc_59_90 rfl rfl ?_
          by_cases c18 : x4.toInt = 0
          · refine xi_ift (pc' := 99) kc_59_92 rfl (xc_eq_t (X := x4.toInt) (Y := 0) rfl (by decide) (by omega)) ?_
            refine xi_iconst (pc' := 100) (v := 0) kc_59_99 rfl rfl ?_
            refine xi_ireturn kc_59_100 mr_59 rfl ?_
            have zc0 : (0 : Int32).toInt = 0 := by decide
            exact kk 0 h (by omega) K
          · refine xi_iff (pc' := 95) kc_59_92 rfl (xc_eq_f (X := x4.toInt) (Y := 0) rfl (by decide) (by omega)) ?_
            refine xi_iconst (pc' := 96) (v := 1) kc_59_95 rfl rfl ?_
            refine xi_goto (pc' := 100) kc_59_96 rfl ?_
            refine xi_ireturn kc_59_100 mr_59 rfl ?_
            have zc1 : (1 : Int32).toInt = 1 := by decide
            exact kk 1 h (by omega) K
      · refine xi_cmf (pc' := 17) kc_59_14 rfl (xc_ge_f (X := x5.toInt) (Y := 64) rfl (by decide) (by omega)) ?_
        refine xi_iload_n (pc' := 18) (x := x3) kc_59_17 rfl rfl ?_
        by_cases c19 : x3.toInt = 0
        · refine xi_ift (pc' := 26) kc_59_18 rfl (xc_eq_t (X := x3.toInt) (Y := 0) rfl (by decide) (by omega)) ?_
          refine xi_aload_n (pc' := 27) (x := 115) kc_59_26 rfl rfl ?_
          refine xi_iload (pc' := 29) (x := x5) kc_59_27 rfl rfl ?_
          refine xi_iload_n (pc' := 30) (x := x1) kc_59_29 rfl rfl ?_
          refine xi_virtual (mj := 60) (as := [.int x5, .int x1]) (st1 := []) (lv0 := [(0, .ref 115), (1, .int x5), (2, .int x1)]) kc_59_30 rfl rfl rfl rfl rfl A14 (Nat.le_of_ble_eq_true rfl) (hJ _ _ _ _ (by decide)) (xm_le ml_60 rfl) rfl ?_
          refine mt_60_0 hJ hov1 hov2 (d := d) (x1 := x5) (x2 := x1) K.1 (by first | omega | decide) (by first | omega | decide) (fun r20 hh21 br20 K22 => ?_)
          have K23 := xk_tr K K22 (xsb_ok _ _ (by decide +kernel))
          obtain ⟨u24, u25, u26, u27, u28, u29, u30, u31, u32, u33, u34, u35, u36, bu24, bu25, bu26, bu27, bu28, bu29, bu30, bu31, bu32, bu33, bu34, bu35, bu36, A37⟩ := xq_115 K23.1
          have e38 : u2 = u25 := xk_eqi (q := 1) K22 (by decide +kernel) A14 A37 rfl rfl
          subst e38
          have e39 : u5 = u28 := xk_eqi (q := 23) K22 (by decide +kernel) A14 A37 rfl rfl
          subst e39
          have e40 : u8 = u31 := xk_eqi (q := 34) K22 (by decide +kernel) A14 A37 rfl rfl
          subst e40
          have e41 : u6 = u29 := xk_eqi (q := 32) K22 (by decide +kernel) A14 A37 rfl rfl
          subst e41
          show xw J ov (d + 3) 59 (33, [(0, .ref 115), (1, .int x1), (2, .int x2), (3, .int x3), (4, .int x4), (5, .int x5)], [.int r20], hh21) _
          by_cases c42 : r20.toInt = 0
          · refine xi_ift (pc' := 80) kc_59_33 rfl (xc_eq_t (X := r20.toInt) (Y := 0) rfl (by decide) (by omega)) ?_
            obtain ⟨v43, ev43⟩ : ∃ q : Int32, x5 + 1 = q := ⟨_, rfl⟩
            have zv43 : v43.toInt = (x5.toInt + 1) := by rw [← ev43]; exact (xz_add (X := x5.toInt) (Y := 1) rfl (by decide) (by omega) (by omega)).trans (by omega)
            refine xi_iinc (pc' := 83) (x := x5) (v := v43) (lv' := [(5, .int v43), (0, .ref 115), (1, .int x1), (2, .int x2), (3, .int x3), (4, .int x4)]) kc_59_80 rfl rfl ev43 rfl (xm_lt ml_59 rfl) ?_
            refine xi_goto (pc' := 8) kc_59_83 rfl ?_
            refine xw_lv (b := [(0, .ref 115), (1, .int x1), (2, .int x2), (3, .int x3), (4, .int x4), (5, .int v43)]) (lvS_cons (lvS_cons (lvS_cons (lvS_cons (lvS_cons (lvS_cons (lvS_nil (show ([5, 0, 1, 2, 3, 4] : List Nat).Nodup by decide)) rfl) rfl) rfl) rfl) rfl) rfl) ?_
            exact i0 x1 x2 x3 x4 v43 hh21 (by omega) (by omega) (by omega) (by omega) (by omega) K23 (by omega)
          · refine xi_iff (pc' := 36) kc_59_33 rfl (xc_eq_f (X := r20.toInt) (Y := 0) rfl (by decide) (by omega)) ?_
            refine xi_iload_n (pc' := 37) (x := x3) kc_59_36 rfl rfl ?_
            refine xi_iff (pc' := 40) kc_59_37 rfl (xc_ne_f (X := x3.toInt) (Y := 0) rfl (by decide) (by omega)) ?_
            refine xi_aload_n (pc' := 41) (x := 115) kc_59_40 rfl rfl ?_
            refine xi_iload_n (pc' := 42) (x := x2) kc_59_41 rfl rfl ?_
            refine xi_iload (pc' := 44) (x := x5) kc_59_42 rfl rfl ?_
            refine xi_virtual (mj := 54) (as := [.int x2, .int x5]) (st1 := []) (lv0 := [(0, .ref 115), (1, .int x2), (2, .int x5)]) kc_59_44 rfl rfl rfl rfl rfl A37 (Nat.le_of_ble_eq_true rfl) (hJ _ _ _ _ (by decide)) (xm_le ml_54 rfl) rfl ?_
            refine xi_aload_n (pc' := 1) (x := 115) kc_54_0 rfl rfl ?_
            refine xi_getfield (pc' := 4) (v := .ref 152) kc_54_1 rfl rfl rfl A37 rfl ?_
            refine xi_iload_n (pc' := 5) (x := x2) kc_54_4 rfl rfl ?_
            obtain ⟨y44, A44, hy44, ry44⟩ := xk_arr K23.1 xD_152
            obtain ⟨v45, ev45, bv45, dv45⟩ := xj_get hy44 ry44 (i := x2) (by omega) (by omega)
            refine xi_iaload (pc' := 6) (v := v45) kc_54_5 rfl A44 (by decide) rfl (xi_in (by omega) (by rw [hy44]; omega)) ev45 ?_
            refine xi_iload_n (pc' := 7) (x := x5) kc_54_6 rfl rfl ?_
            obtain ⟨v46, ev46⟩ : ∃ q : Int32, (v45 : Int32) &&& x5 = q := ⟨_, rfl⟩
            have rv46 := xc_rng v46
            refine xi_iand (pc' := 8) (v := v46) kc_54_7 rfl ev46 ?_
            by_cases c47 : v46.toInt = 0
            · refine xi_ift (pc' := 15) kc_54_8 rfl (xc_eq_t (X := v46.toInt) (Y := 0) rfl (by decide) (by omega)) ?_
              refine xi_iconst (pc' := 16) (v := 2) kc_54_15 rfl rfl ?_
              refine xi_ireturn kc_54_16 mr_54 rfl ?_
              show xw J ov (d + 3) 59 (47, [(0, .ref 115), (1, .int x1), (2, .int x2), (3, .int x3), (4, .int x4), (5, .int x5)], [.int 2], hh21) _
              refine xi_iconst (pc' := 48) (v := 1) kc_59_47 rfl rfl ?_
              refine xi_cmt (pc' := 55) kc_59_48 rfl rfl ?_
              refine xi_iconst (pc' := 56) (v := 0) kc_59_55 rfl rfl ?_
              refine xi_istore_n (pc' := 57) (lv' := [(3, .int 0), (0, .ref 115), (1, .int x1), (2, .int x2), (4, .int x4), (5, .int x5)]) kc_59_56 rfl rfl (xm_lt ml_59 rfl) ?_
              refine xi_iload (pc' := 59) (x := x4) kc_59_57 rfl rfl ?_
              by_cases c48 : x4.toInt = 0
              · refine xi_iff (pc' := 62) kc_59_59 rfl (xc_ne_f (X := x4.toInt) (Y := 0) rfl (by decide) (by omega)) ?_
                refine xi_aload_n (pc' := 63) (x := 115) kc_59_62 rfl rfl ?_
                refine xi_iload_n (pc' := 64) (x := x2) kc_59_63 rfl rfl ?_
                refine xi_iload (pc' := 66) (x := x5) kc_59_64 rfl rfl ?_
                refine xi_virtual (mj := 54) (as := [.int x2, .int x5]) (st1 := []) (lv0 := [(0, .ref 115), (1, .int x2), (2, .int x5)]) kc_59_66 rfl rfl rfl rfl rfl A37 (Nat.le_of_ble_eq_true rfl) (hJ _ _ _ _ (by decide)) (xm_le ml_54 rfl) rfl ?_
                refine xi_aload_n (pc' := 1) (x := 115) kc_54_0 rfl rfl ?_
                refine xi_getfield (pc' := 4) (v := .ref 152) kc_54_1 rfl rfl rfl A37 rfl ?_
                refine xi_iload_n (pc' := 5) (x := x2) kc_54_4 rfl rfl ?_
                refine xi_iaload (pc' := 6) (v := v45) kc_54_5 rfl A44 (by decide) rfl (xi_in (by omega) (by rw [hy44]; omega)) ev45 ?_
                refine xi_iload_n (pc' := 7) (x := x5) kc_54_6 rfl rfl ?_
                refine xi_iand (pc' := 8) (v := v46) kc_54_7 rfl ev46 ?_
                refine xi_ift (pc' := 15) kc_54_8 rfl (xc_eq_t (X := v46.toInt) (Y := 0) rfl (by decide) (by omega)) ?_
                refine xi_iconst (pc' := 16) (v := 2) kc_54_15 rfl rfl ?_
                refine xi_ireturn kc_54_16 mr_54 rfl ?_
                show xw J ov (d + 3) 59 (69, [(3, .int 0), (0, .ref 115), (1, .int x1), (2, .int x2), (4, .int x4), (5, .int x5)], [.int 2], hh21) _
                refine xi_iconst (pc' := 70) (v := 2) kc_59_69 rfl rfl ?_
                refine xi_cmf (pc' := 73) kc_59_70 rfl rfl ?_
                refine xi_iconst (pc' := 74) (v := 1) kc_59_73 rfl rfl ?_
                refine xi_goto (pc' := 78) kc_59_74 rfl ?_
                refine xi_istore (pc' := 80) (lv' := [(4, .int 1), (3, .int 0), (0, .ref 115), (1, .int x1), (2, .int x2), (5, .int x5)]) kc_59_78 rfl rfl (xm_lt ml_59 rfl) ?_
                obtain ⟨v49, ev49⟩ : ∃ q : Int32, x5 + 1 = q := ⟨_, rfl⟩
                have zv49 : v49.toInt = (x5.toInt + 1) := by rw [← ev49]; exact (xz_add (X := x5.toInt) (Y := 1) rfl (by decide) (by omega) (by omega)).trans (by omega)
                refine xi_iinc (pc' := 83) (x := x5) (v := v49) (lv' := [(5, .int v49), (4, .int 1), (3, .int 0), (0, .ref 115), (1, .int x1), (2, .int x2)]) kc_59_80 rfl rfl ev49 rfl (xm_lt ml_59 rfl) ?_
                refine xi_goto (pc' := 8) kc_59_83 rfl ?_
                have zc0 : (0 : Int32).toInt = 0 := by decide
                have zc1 : (1 : Int32).toInt = 1 := by decide
                refine xw_lv (b := [(0, .ref 115), (1, .int x1), (2, .int x2), (3, .int 0), (4, .int 1), (5, .int v49)]) (lvS_cons (lvS_cons (lvS_cons (lvS_cons (lvS_cons (lvS_cons (lvS_nil (show ([5, 4, 3, 0, 1, 2] : List Nat).Nodup by decide)) rfl) rfl) rfl) rfl) rfl) rfl) ?_
                exact i0 x1 x2 0 1 v49 hh21 (by omega) (by omega) (by omega) (by omega) (by omega) K23 (by omega)
              · refine xi_ift (pc' := 73) kc_59_59 rfl (xc_ne_t (X := x4.toInt) (Y := 0) rfl (by decide) (by omega)) ?_
                refine xi_iconst (pc' := 74) (v := 1) kc_59_73 rfl rfl ?_
                refine xi_goto (pc' := 78) kc_59_74 rfl ?_
                refine xi_istore (pc' := 80) (lv' := [(4, .int 1), (3, .int 0), (0, .ref 115), (1, .int x1), (2, .int x2), (5, .int x5)]) kc_59_78 rfl rfl (xm_lt ml_59 rfl) ?_
                obtain ⟨v50, ev50⟩ : ∃ q : Int32, x5 + 1 = q := ⟨_, rfl⟩
                have zv50 : v50.toInt = (x5.toInt + 1) := by rw [← ev50]; exact (xz_add (X := x5.toInt) (Y := 1) rfl (by decide) (by omega) (by omega)).trans (by omega)
                refine xi_iinc (pc' := 83) (x := x5) (v := v50) (lv' := [(5, .int v50), (4, .int 1), (3, .int 0), (0, .ref 115), (1, .int x1), (2, .int x2)]) kc_59_80 rfl rfl ev50 rfl (xm_lt ml_59 rfl) ?_
                refine xi_goto (pc' := 8) kc_59_83 rfl ?_
                have zc0 : (0 : Int32).toInt = 0 := by decide
                have zc1 : (1 : Int32).toInt = 1 := by decide
                refine xw_lv (b := [(0, .ref 115), (1, .int x1), (2, .int x2), (3, .int 0), (4, .int 1), (5, .int v50)]) (lvS_cons (lvS_cons (lvS_cons (lvS_cons (lvS_cons (lvS_cons (lvS_nil (show ([5, 4, 3, 0, 1, 2] : List Nat).Nodup by decide)) rfl) rfl) rfl) rfl) rfl) rfl) ?_
                exact i0 x1 x2 0 1 v50 hh21 (by omega) (by omega) (by omega) (by omega) (by omega) K23 (by omega)
            · refine xi_iff (pc' := 11) kc_54_8 rfl (xc_eq_f (X := v46.toInt) (Y := 0) rfl (by decide) (by omega)) ?_
              refine xi_iconst (pc' := 12) (v := 1) kc_54_11 rfl rfl ?_
              refine xi_goto (pc' := 16) kc_54_12 rfl ?_
              refine xi_ireturn kc_54_16 mr_54 rfl ?_
              show xw J ov (d + 3) 59 (47, [(0, .ref 115), (1, .int x1), (2, .int x2), (3, .int x3), (4, .int x4), (5, .int x5)], [.int 1], hh21) _
              refine xi_iconst (pc' := 48) (v := 1) kc_59_47 rfl rfl ?_
              refine xi_cmf (pc' := 51) kc_59_48 rfl rfl ?_
              refine xi_iconst (pc' := 52) (v := 1) kc_59_51 rfl rfl ?_
              refine xi_goto (pc' := 56) kc_59_52 rfl ?_
              refine xi_istore_n (pc' := 57) (lv' := [(3, .int 1), (0, .ref 115), (1, .int x1), (2, .int x2), (4, .int x4), (5, .int x5)]) kc_59_56 rfl rfl (xm_lt ml_59 rfl) ?_
              refine xi_iload (pc' := 59) (x := x4) kc_59_57 rfl rfl ?_
              by_cases c51 : x4.toInt = 0
              · refine xi_iff (pc' := 62) kc_59_59 rfl (xc_ne_f (X := x4.toInt) (Y := 0) rfl (by decide) (by omega)) ?_
                refine xi_aload_n (pc' := 63) (x := 115) kc_59_62 rfl rfl ?_
                refine xi_iload_n (pc' := 64) (x := x2) kc_59_63 rfl rfl ?_
                refine xi_iload (pc' := 66) (x := x5) kc_59_64 rfl rfl ?_
                refine xi_virtual (mj := 54) (as := [.int x2, .int x5]) (st1 := []) (lv0 := [(0, .ref 115), (1, .int x2), (2, .int x5)]) kc_59_66 rfl rfl rfl rfl rfl A37 (Nat.le_of_ble_eq_true rfl) (hJ _ _ _ _ (by decide)) (xm_le ml_54 rfl) rfl ?_
                refine xi_aload_n (pc' := 1) (x := 115) kc_54_0 rfl rfl ?_
                refine xi_getfield (pc' := 4) (v := .ref 152) kc_54_1 rfl rfl rfl A37 rfl ?_
                refine xi_iload_n (pc' := 5) (x := x2) kc_54_4 rfl rfl ?_
                refine xi_iaload (pc' := 6) (v := v45) kc_54_5 rfl A44 (by decide) rfl (xi_in (by omega) (by rw [hy44]; omega)) ev45 ?_
                refine xi_iload_n (pc' := 7) (x := x5) kc_54_6 rfl rfl ?_
                refine xi_iand (pc' := 8) (v := v46) kc_54_7 rfl ev46 ?_
                refine xi_iff (pc' := 11) kc_54_8 rfl (xc_eq_f (X := v46.toInt) (Y := 0) rfl (by decide) (by omega)) ?_
                refine xi_iconst (pc' := 12) (v := 1) kc_54_11 rfl rfl ?_
                refine xi_goto (pc' := 16) kc_54_12 rfl ?_
                refine xi_ireturn kc_54_16 mr_54 rfl ?_
                show xw J ov (d + 3) 59 (69, [(3, .int 1), (0, .ref 115), (1, .int x1), (2, .int x2), (4, .int x4), (5, .int x5)], [.int 1], hh21) _
                refine xi_iconst (pc' := 70) (v := 2) kc_59_69 rfl rfl ?_
                refine xi_cmt (pc' := 77) kc_59_70 rfl rfl ?_
                refine xi_iconst (pc' := 78) (v := 0) kc_59_77 rfl rfl ?_
                refine xi_istore (pc' := 80) (lv' := [(4, .int 0), (3, .int 1), (0, .ref 115), (1, .int x1), (2, .int x2), (5, .int x5)]) kc_59_78 rfl rfl (xm_lt ml_59 rfl) ?_
                obtain ⟨v52, ev52⟩ : ∃ q : Int32, x5 + 1 = q := ⟨_, rfl⟩
                have zv52 : v52.toInt = (x5.toInt + 1) := by rw [← ev52]; exact (xz_add (X := x5.toInt) (Y := 1) rfl (by decide) (by omega) (by omega)).trans (by omega)
                refine xi_iinc (pc' := 83) (x := x5) (v := v52) (lv' := [(5, .int v52), (4, .int 0), (3, .int 1), (0, .ref 115), (1, .int x1), (2, .int x2)]) kc_59_80 rfl rfl ev52 rfl (xm_lt ml_59 rfl) ?_
                refine xi_goto (pc' := 8) kc_59_83 rfl ?_
                have zc0 : (0 : Int32).toInt = 0 := by decide
                have zc1 : (1 : Int32).toInt = 1 := by decide
                refine xw_lv (b := [(0, .ref 115), (1, .int x1), (2, .int x2), (3, .int 1), (4, .int 0), (5, .int v52)]) (lvS_cons (lvS_cons (lvS_cons (lvS_cons (lvS_cons (lvS_cons (lvS_nil (show ([5, 4, 3, 0, 1, 2] : List Nat).Nodup by decide)) rfl) rfl) rfl) rfl) rfl) rfl) ?_
                exact i0 x1 x2 1 0 v52 hh21 (by omega) (by omega) (by omega) (by omega) (by omega) K23 (by omega)
              · refine xi_ift (pc' := 73) kc_59_59 rfl (xc_ne_t (X := x4.toInt) (Y := 0) rfl (by decide) (by omega)) ?_
                refine xi_iconst (pc' := 74) (v := 1) kc_59_73 rfl rfl ?_
                refine xi_goto (pc' := 78) kc_59_74 rfl ?_
                refine xi_istore (pc' := 80) (lv' := [(4, .int 1), (3, .int 1), (0, .ref 115), (1, .int x1), (2, .int x2), (5, .int x5)]) kc_59_78 rfl rfl (xm_lt ml_59 rfl) ?_
                obtain ⟨v53, ev53⟩ : ∃ q : Int32, x5 + 1 = q := ⟨_, rfl⟩
                have zv53 : v53.toInt = (x5.toInt + 1) := by rw [← ev53]; exact (xz_add (X := x5.toInt) (Y := 1) rfl (by decide) (by omega) (by omega)).trans (by omega)
                refine xi_iinc (pc' := 83) (x := x5) (v := v53) (lv' := [(5, .int v53), (4, .int 1), (3, .int 1), (0, .ref 115), (1, .int x1), (2, .int x2)]) kc_59_80 rfl rfl ev53 rfl (xm_lt ml_59 rfl) ?_
                refine xi_goto (pc' := 8) kc_59_83 rfl ?_
                have zc1 : (1 : Int32).toInt = 1 := by decide
                refine xw_lv (b := [(0, .ref 115), (1, .int x1), (2, .int x2), (3, .int 1), (4, .int 1), (5, .int v53)]) (lvS_cons (lvS_cons (lvS_cons (lvS_cons (lvS_cons (lvS_cons (lvS_nil (show ([5, 4, 3, 0, 1, 2] : List Nat).Nodup by decide)) rfl) rfl) rfl) rfl) rfl) rfl) ?_
                exact i0 x1 x2 1 1 v53 hh21 (by omega) (by omega) (by omega) (by omega) (by omega) K23 (by omega)
        · refine xi_iff (pc' := 21) kc_59_18 rfl (xc_eq_f (X := x3.toInt) (Y := 0) rfl (by decide) (by omega)) ?_
          refine xi_iload (pc' := 23) (x := x4) kc_59_21 rfl rfl ?_
          by_cases c54 : x4.toInt = 0
          · refine xi_iff (pc' := 26) kc_59_23 rfl (xc_ne_f (X := x4.toInt) (Y := 0) rfl (by decide) (by omega)) ?_
            refine xi_aload_n (pc' := 27) (x := 115) kc_59_26 rfl rfl ?_
            refine xi_iload (pc' := 29) (x := x5) kc_59_27 rfl rfl ?_
            refine xi_iload_n (pc' := 30) (x := x1) kc_59_29 rfl rfl ?_
            refine xi_virtual (mj := 60) (as := [.int x5, .int x1]) (st1 := []) (lv0 := [(0, .ref 115), (1, .int x5), (2, .int x1)]) kc_59_30 rfl rfl rfl rfl rfl A14 (Nat.le_of_ble_eq_true rfl) (hJ _ _ _ _ (by decide)) (xm_le ml_60 rfl) rfl ?_
            refine mt_60_0 hJ hov1 hov2 (d := d) (x1 := x5) (x2 := x1) K.1 (by first | omega | decide) (by first | omega | decide) (fun r55 hh56 br55 K57 => ?_)
            have K58 := xk_tr K K57 (xsb_ok _ _ (by decide +kernel))
            obtain ⟨u59, u60, u61, u62, u63, u64, u65, u66, u67, u68, u69, u70, u71, bu59, bu60, bu61, bu62, bu63, bu64, bu65, bu66, bu67, bu68, bu69, bu70, bu71, A72⟩ := xq_115 K58.1
            have e73 : u2 = u60 := xk_eqi (q := 1) K57 (by decide +kernel) A14 A72 rfl rfl
            subst e73
            have e74 : u5 = u63 := xk_eqi (q := 23) K57 (by decide +kernel) A14 A72 rfl rfl
            subst e74
            have e75 : u8 = u66 := xk_eqi (q := 34) K57 (by decide +kernel) A14 A72 rfl rfl
            subst e75
            have e76 : u6 = u64 := xk_eqi (q := 32) K57 (by decide +kernel) A14 A72 rfl rfl
            subst e76
            show xw J ov (d + 3) 59 (33, [(0, .ref 115), (1, .int x1), (2, .int x2), (3, .int x3), (4, .int x4), (5, .int x5)], [.int r55], hh56) _
            by_cases c77 : r55.toInt = 0
            · refine xi_ift (pc' := 80) kc_59_33 rfl (xc_eq_t (X := r55.toInt) (Y := 0) rfl (by decide) (by omega)) ?_
              obtain ⟨v78, ev78⟩ : ∃ q : Int32, x5 + 1 = q := ⟨_, rfl⟩
              have zv78 : v78.toInt = (x5.toInt + 1) := by rw [← ev78]; exact (xz_add (X := x5.toInt) (Y := 1) rfl (by decide) (by omega) (by omega)).trans (by omega)
              refine xi_iinc (pc' := 83) (x := x5) (v := v78) (lv' := [(5, .int v78), (0, .ref 115), (1, .int x1), (2, .int x2), (3, .int x3), (4, .int x4)]) kc_59_80 rfl rfl ev78 rfl (xm_lt ml_59 rfl) ?_
              refine xi_goto (pc' := 8) kc_59_83 rfl ?_
              refine xw_lv (b := [(0, .ref 115), (1, .int x1), (2, .int x2), (3, .int x3), (4, .int x4), (5, .int v78)]) (lvS_cons (lvS_cons (lvS_cons (lvS_cons (lvS_cons (lvS_cons (lvS_nil (show ([5, 0, 1, 2, 3, 4] : List Nat).Nodup by decide)) rfl) rfl) rfl) rfl) rfl) rfl) ?_
              exact i0 x1 x2 x3 x4 v78 hh56 (by omega) (by omega) (by omega) (by omega) (by omega) K58 (by omega)
            · refine xi_iff (pc' := 36) kc_59_33 rfl (xc_eq_f (X := r55.toInt) (Y := 0) rfl (by decide) (by omega)) ?_
              refine xi_iload_n (pc' := 37) (x := x3) kc_59_36 rfl rfl ?_
              refine xi_ift (pc' := 51) kc_59_37 rfl (xc_ne_t (X := x3.toInt) (Y := 0) rfl (by decide) (by omega)) ?_
              refine xi_iconst (pc' := 52) (v := 1) kc_59_51 rfl rfl ?_
              refine xi_goto (pc' := 56) kc_59_52 rfl ?_
              refine xi_istore_n (pc' := 57) (lv' := [(3, .int 1), (0, .ref 115), (1, .int x1), (2, .int x2), (4, .int x4), (5, .int x5)]) kc_59_56 rfl rfl (xm_lt ml_59 rfl) ?_
              refine xi_iload (pc' := 59) (x := x4) kc_59_57 rfl rfl ?_
              refine xi_iff (pc' := 62) kc_59_59 rfl (xc_ne_f (X := x4.toInt) (Y := 0) rfl (by decide) (by omega)) ?_
              refine xi_aload_n (pc' := 63) (x := 115) kc_59_62 rfl rfl ?_
              refine xi_iload_n (pc' := 64) (x := x2) kc_59_63 rfl rfl ?_
              refine xi_iload (pc' := 66) (x := x5) kc_59_64 rfl rfl ?_
              refine xi_virtual (mj := 54) (as := [.int x2, .int x5]) (st1 := []) (lv0 := [(0, .ref 115), (1, .int x2), (2, .int x5)]) kc_59_66 rfl rfl rfl rfl rfl A72 (Nat.le_of_ble_eq_true rfl) (hJ _ _ _ _ (by decide)) (xm_le ml_54 rfl) rfl ?_
              refine xi_aload_n (pc' := 1) (x := 115) kc_54_0 rfl rfl ?_
              refine xi_getfield (pc' := 4) (v := .ref 152) kc_54_1 rfl rfl rfl A72 rfl ?_
              refine xi_iload_n (pc' := 5) (x := x2) kc_54_4 rfl rfl ?_
              obtain ⟨y79, A79, hy79, ry79⟩ := xk_arr K58.1 xD_152
              obtain ⟨v80, ev80, bv80, dv80⟩ := xj_get hy79 ry79 (i := x2) (by omega) (by omega)
              refine xi_iaload (pc' := 6) (v := v80) kc_54_5 rfl A79 (by decide) rfl (xi_in (by omega) (by rw [hy79]; omega)) ev80 ?_
              refine xi_iload_n (pc' := 7) (x := x5) kc_54_6 rfl rfl ?_
              obtain ⟨v81, ev81⟩ : ∃ q : Int32, (v80 : Int32) &&& x5 = q := ⟨_, rfl⟩
              have rv81 := xc_rng v81
              refine xi_iand (pc' := 8) (v := v81) kc_54_7 rfl ev81 ?_
              by_cases c82 : v81.toInt = 0
              · refine xi_ift (pc' := 15) kc_54_8 rfl (xc_eq_t (X := v81.toInt) (Y := 0) rfl (by decide) (by omega)) ?_
                refine xi_iconst (pc' := 16) (v := 2) kc_54_15 rfl rfl ?_
                refine xi_ireturn kc_54_16 mr_54 rfl ?_
                show xw J ov (d + 3) 59 (69, [(3, .int 1), (0, .ref 115), (1, .int x1), (2, .int x2), (4, .int x4), (5, .int x5)], [.int 2], hh56) _
                refine xi_iconst (pc' := 70) (v := 2) kc_59_69 rfl rfl ?_
                refine xi_cmf (pc' := 73) kc_59_70 rfl rfl ?_
                refine xi_iconst (pc' := 74) (v := 1) kc_59_73 rfl rfl ?_
                refine xi_goto (pc' := 78) kc_59_74 rfl ?_
                refine xi_istore (pc' := 80) (lv' := [(4, .int 1), (3, .int 1), (0, .ref 115), (1, .int x1), (2, .int x2), (5, .int x5)]) kc_59_78 rfl rfl (xm_lt ml_59 rfl) ?_
                obtain ⟨v83, ev83⟩ : ∃ q : Int32, x5 + 1 = q := ⟨_, rfl⟩
                have zv83 : v83.toInt = (x5.toInt + 1) := by rw [← ev83]; exact (xz_add (X := x5.toInt) (Y := 1) rfl (by decide) (by omega) (by omega)).trans (by omega)
                refine xi_iinc (pc' := 83) (x := x5) (v := v83) (lv' := [(5, .int v83), (4, .int 1), (3, .int 1), (0, .ref 115), (1, .int x1), (2, .int x2)]) kc_59_80 rfl rfl ev83 rfl (xm_lt ml_59 rfl) ?_
                refine xi_goto (pc' := 8) kc_59_83 rfl ?_
                have zc1 : (1 : Int32).toInt = 1 := by decide
                refine xw_lv (b := [(0, .ref 115), (1, .int x1), (2, .int x2), (3, .int 1), (4, .int 1), (5, .int v83)]) (lvS_cons (lvS_cons (lvS_cons (lvS_cons (lvS_cons (lvS_cons (lvS_nil (show ([5, 4, 3, 0, 1, 2] : List Nat).Nodup by decide)) rfl) rfl) rfl) rfl) rfl) rfl) ?_
                exact i0 x1 x2 1 1 v83 hh56 (by omega) (by omega) (by omega) (by omega) (by omega) K58 (by omega)
              · refine xi_iff (pc' := 11) kc_54_8 rfl (xc_eq_f (X := v81.toInt) (Y := 0) rfl (by decide) (by omega)) ?_
                refine xi_iconst (pc' := 12) (v := 1) kc_54_11 rfl rfl ?_
                refine xi_goto (pc' := 16) kc_54_12 rfl ?_
                refine xi_ireturn kc_54_16 mr_54 rfl ?_
                show xw J ov (d + 3) 59 (69, [(3, .int 1), (0, .ref 115), (1, .int x1), (2, .int x2), (4, .int x4), (5, .int x5)], [.int 1], hh56) _
                refine xi_iconst (pc' := 70) (v := 2) kc_59_69 rfl rfl ?_
                refine xi_cmt (pc' := 77) kc_59_70 rfl rfl ?_
                refine xi_iconst (pc' := 78) (v := 0) kc_59_77 rfl rfl ?_
                refine xi_istore (pc' := 80) (lv' := [(4, .int 0), (3, .int 1), (0, .ref 115), (1, .int x1), (2, .int x2), (5, .int x5)]) kc_59_78 rfl rfl (xm_lt ml_59 rfl) ?_
                obtain ⟨v84, ev84⟩ : ∃ q : Int32, x5 + 1 = q := ⟨_, rfl⟩
                have zv84 : v84.toInt = (x5.toInt + 1) := by rw [← ev84]; exact (xz_add (X := x5.toInt) (Y := 1) rfl (by decide) (by omega) (by omega)).trans (by omega)
                refine xi_iinc (pc' := 83) (x := x5) (v := v84) (lv' := [(5, .int v84), (4, .int 0), (3, .int 1), (0, .ref 115), (1, .int x1), (2, .int x2)]) kc_59_80 rfl rfl ev84 rfl (xm_lt ml_59 rfl) ?_
                refine xi_goto (pc' := 8) kc_59_83 rfl ?_
                have zc0 : (0 : Int32).toInt = 0 := by decide
                have zc1 : (1 : Int32).toInt = 1 := by decide
                refine xw_lv (b := [(0, .ref 115), (1, .int x1), (2, .int x2), (3, .int 1), (4, .int 0), (5, .int v84)]) (lvS_cons (lvS_cons (lvS_cons (lvS_cons (lvS_cons (lvS_cons (lvS_nil (show ([5, 4, 3, 0, 1, 2] : List Nat).Nodup by decide)) rfl) rfl) rfl) rfl) rfl) rfl) ?_
                exact i0 x1 x2 1 0 v84 hh56 (by omega) (by omega) (by omega) (by omega) (by omega) K58 (by omega)
          · refine xi_ift (pc' := 86) kc_59_23 rfl (xc_ne_t (X := x4.toInt) (Y := 0) rfl (by decide) (by omega)) ?_
            refine xi_iload_n (pc' := 87) (x := x3) kc_59_86 rfl rfl ?_
            refine xi_iff (pc' := 90) kc_59_87 rfl (xc_eq_f (X := x3.toInt) (Y := 0) rfl (by decide) (by omega)) ?_
            refine xi_iload (pc' := 92) (x := x4) kc_59_90 rfl rfl ?_
            refine xi_iff (pc' := 95) kc_59_92 rfl (xc_eq_f (X := x4.toInt) (Y := 0) rfl (by decide) (by omega)) ?_
            refine xi_iconst (pc' := 96) (v := 1) kc_59_95 rfl rfl ?_
            refine xi_goto (pc' := 100) kc_59_96 rfl ?_
            refine xi_ireturn kc_59_100 mr_59 rfl ?_
            have zc1 : (1 : Int32).toInt = 1 := by decide
            exact kk 1 h (by omega) K
    · refine xi_cmf (pc' := 10) kc_42_7 rfl (xc_ge_f (X := u5.toInt) (Y := 6) rfl (by decide) (by omega)) ?_
      refine xi_aload_n (pc' := 11) (x := 115) kc_42_10 rfl rfl ?_
      refine xi_getfield (pc' := 14) (v := .int u5) kc_42_11 rfl rfl rfl A14 rfl ?_
      refine xi_goto (pc' := 19) kc_42_14 rfl ?_
      obtain ⟨v85, ev85⟩ : ∃ q : Int32, (1 : Int32) <<< (u5 &&& 31) = q := ⟨_, rfl⟩
      have rv85 := xc_rng v85
      have bv85 : 1 ≤ v85.toInt ∧ v85.toInt ≤ 64 := by rw [← ev85]; exact xj_shl6 (by omega) (by omega)
      refine xi_ishl (pc' := 20) (v := v85) kc_42_19 rfl ev85 ?_
      refine xi_ireturn kc_42_20 mr_42 rfl ?_
      show xw J ov (d + 3) 59 (14, [(0, .ref 115), (1, .int x1), (2, .int x2), (3, .int x3), (4, .int x4), (5, .int x5)], [.int v85, .int x5], h) _
      by_cases c86 : v85.toInt ≤ x5.toInt
      · refine xi_cmt (pc' := 86) kc_59_14 rfl (xc_ge_t (X := x5.toInt) (Y := v85.toInt) rfl rfl (by omega)) ?_
        refine xi_iload_n (pc' := 87) (x := x3) kc_59_86 rfl rfl ?_
        by_cases c87 : x3.toInt = 0
        · refine xi_ift (pc' := 99) kc_59_87 rfl (xc_eq_t (X := x3.toInt) (Y := 0) rfl (by decide) (by omega)) ?_
          refine xi_iconst (pc' := 100) (v := 0) kc_59_99 rfl rfl ?_
          refine xi_ireturn kc_59_100 mr_59 rfl ?_
          have zc0 : (0 : Int32).toInt = 0 := by decide
          exact kk 0 h (by omega) K
        · refine xi_iff (pc' := 90) kc_59_87 rfl (xc_eq_f (X := x3.toInt) (Y := 0) rfl (by decide) (by omega)) ?_
          refine xi_iload (pc' := 92) (x := x4) kc_59_90 rfl rfl ?_
          by_cases c88 : x4.toInt = 0
          · refine xi_ift (pc' := 99) kc_59_92 rfl (xc_eq_t (X := x4.toInt) (Y := 0) rfl (by decide) (by omega)) ?_
            refine xi_iconst (pc' := 100) (v := 0) kc_59_99 rfl rfl ?_
            refine xi_ireturn kc_59_100 mr_59 rfl ?_
            have zc0 : (0 : Int32).toInt = 0 := by decide
            exact kk 0 h (by omega) K
          · refine xi_iff (pc' := 95) kc_59_92 rfl (xc_eq_f (X := x4.toInt) (Y := 0) rfl (by decide) (by omega)) ?_
            refine xi_iconst (pc' := 96) (v := 1) kc_59_95 rfl rfl ?_
            refine xi_goto (pc' := 100) kc_59_96 rfl ?_
            refine xi_ireturn kc_59_100 mr_59 rfl ?_
            have zc1 : (1 : Int32).toInt = 1 := by decide
            exact kk 1 h (by omega) K
      · refine xi_cmf (pc' := 17) kc_59_14 rfl (xc_ge_f (X := x5.toInt) (Y := v85.toInt) rfl rfl (by omega)) ?_
        refine xi_iload_n (pc' := 18) (x := x3) kc_59_17 rfl rfl ?_
        by_cases c89 : x3.toInt = 0
        · refine xi_ift (pc' := 26) kc_59_18 rfl (xc_eq_t (X := x3.toInt) (Y := 0) rfl (by decide) (by omega)) ?_
          refine xi_aload_n (pc' := 27) (x := 115) kc_59_26 rfl rfl ?_
          refine xi_iload (pc' := 29) (x := x5) kc_59_27 rfl rfl ?_
          refine xi_iload_n (pc' := 30) (x := x1) kc_59_29 rfl rfl ?_
          refine xi_virtual (mj := 60) (as := [.int x5, .int x1]) (st1 := []) (lv0 := [(0, .ref 115), (1, .int x5), (2, .int x1)]) kc_59_30 rfl rfl rfl rfl rfl A14 (Nat.le_of_ble_eq_true rfl) (hJ _ _ _ _ (by decide)) (xm_le ml_60 rfl) rfl ?_
          refine mt_60_0 hJ hov1 hov2 (d := d) (x1 := x5) (x2 := x1) K.1 (by first | omega | decide) (by first | omega | decide) (fun r90 hh91 br90 K92 => ?_)
          have K93 := xk_tr K K92 (xsb_ok _ _ (by decide +kernel))
          obtain ⟨u94, u95, u96, u97, u98, u99, u100, u101, u102, u103, u104, u105, u106, bu94, bu95, bu96, bu97, bu98, bu99, bu100, bu101, bu102, bu103, bu104, bu105, bu106, A107⟩ := xq_115 K93.1
          have e108 : u2 = u95 := xk_eqi (q := 1) K92 (by decide +kernel) A14 A107 rfl rfl
          subst e108
          have e109 : u5 = u98 := xk_eqi (q := 23) K92 (by decide +kernel) A14 A107 rfl rfl
          subst e109
          have e110 : u8 = u101 := xk_eqi (q := 34) K92 (by decide +kernel) A14 A107 rfl rfl
          subst e110
          have e111 : u6 = u99 := xk_eqi (q := 32) K92 (by decide +kernel) A14 A107 rfl rfl
          subst e111
          show xw J ov (d + 3) 59 (33, [(0, .ref 115), (1, .int x1), (2, .int x2), (3, .int x3), (4, .int x4), (5, .int x5)], [.int r90], hh91) _
          by_cases c112 : r90.toInt = 0
          · refine xi_ift (pc' := 80) kc_59_33 rfl (xc_eq_t (X := r90.toInt) (Y := 0) rfl (by decide) (by omega)) ?_
            obtain ⟨v113, ev113⟩ : ∃ q : Int32, x5 + 1 = q := ⟨_, rfl⟩
            have zv113 : v113.toInt = (x5.toInt + 1) := by rw [← ev113]; exact (xz_add (X := x5.toInt) (Y := 1) rfl (by decide) (by omega) (by omega)).trans (by omega)
            refine xi_iinc (pc' := 83) (x := x5) (v := v113) (lv' := [(5, .int v113), (0, .ref 115), (1, .int x1), (2, .int x2), (3, .int x3), (4, .int x4)]) kc_59_80 rfl rfl ev113 rfl (xm_lt ml_59 rfl) ?_
            refine xi_goto (pc' := 8) kc_59_83 rfl ?_
            refine xw_lv (b := [(0, .ref 115), (1, .int x1), (2, .int x2), (3, .int x3), (4, .int x4), (5, .int v113)]) (lvS_cons (lvS_cons (lvS_cons (lvS_cons (lvS_cons (lvS_cons (lvS_nil (show ([5, 0, 1, 2, 3, 4] : List Nat).Nodup by decide)) rfl) rfl) rfl) rfl) rfl) rfl) ?_
            exact i0 x1 x2 x3 x4 v113 hh91 (by omega) (by omega) (by omega) (by omega) (by omega) K93 (by omega)
          · refine xi_iff (pc' := 36) kc_59_33 rfl (xc_eq_f (X := r90.toInt) (Y := 0) rfl (by decide) (by omega)) ?_
            refine xi_iload_n (pc' := 37) (x := x3) kc_59_36 rfl rfl ?_
            refine xi_iff (pc' := 40) kc_59_37 rfl (xc_ne_f (X := x3.toInt) (Y := 0) rfl (by decide) (by omega)) ?_
            refine xi_aload_n (pc' := 41) (x := 115) kc_59_40 rfl rfl ?_
            refine xi_iload_n (pc' := 42) (x := x2) kc_59_41 rfl rfl ?_
            refine xi_iload (pc' := 44) (x := x5) kc_59_42 rfl rfl ?_
            refine xi_virtual (mj := 54) (as := [.int x2, .int x5]) (st1 := []) (lv0 := [(0, .ref 115), (1, .int x2), (2, .int x5)]) kc_59_44 rfl rfl rfl rfl rfl A107 (Nat.le_of_ble_eq_true rfl) (hJ _ _ _ _ (by decide)) (xm_le ml_54 rfl) rfl ?_
            refine xi_aload_n (pc' := 1) (x := 115) kc_54_0 rfl rfl ?_
            refine xi_getfield (pc' := 4) (v := .ref 152) kc_54_1 rfl rfl rfl A107 rfl ?_
            refine xi_iload_n (pc' := 5) (x := x2) kc_54_4 rfl rfl ?_
            obtain ⟨y114, A114, hy114, ry114⟩ := xk_arr K93.1 xD_152
            obtain ⟨v115, ev115, bv115, dv115⟩ := xj_get hy114 ry114 (i := x2) (by omega) (by omega)
            refine xi_iaload (pc' := 6) (v := v115) kc_54_5 rfl A114 (by decide) rfl (xi_in (by omega) (by rw [hy114]; omega)) ev115 ?_
            refine xi_iload_n (pc' := 7) (x := x5) kc_54_6 rfl rfl ?_
            obtain ⟨v116, ev116⟩ : ∃ q : Int32, (v115 : Int32) &&& x5 = q := ⟨_, rfl⟩
            have rv116 := xc_rng v116
            refine xi_iand (pc' := 8) (v := v116) kc_54_7 rfl ev116 ?_
            by_cases c117 : v116.toInt = 0
            · refine xi_ift (pc' := 15) kc_54_8 rfl (xc_eq_t (X := v116.toInt) (Y := 0) rfl (by decide) (by omega)) ?_
              refine xi_iconst (pc' := 16) (v := 2) kc_54_15 rfl rfl ?_
              refine xi_ireturn kc_54_16 mr_54 rfl ?_
              show xw J ov (d + 3) 59 (47, [(0, .ref 115), (1, .int x1), (2, .int x2), (3, .int x3), (4, .int x4), (5, .int x5)], [.int 2], hh91) _
              refine xi_iconst (pc' := 48) (v := 1) kc_59_47 rfl rfl ?_
              refine xi_cmt (pc' := 55) kc_59_48 rfl rfl ?_
              refine xi_iconst (pc' := 56) (v := 0) kc_59_55 rfl rfl ?_
              refine xi_istore_n (pc' := 57) (lv' := [(3, .int 0), (0, .ref 115), (1, .int x1), (2, .int x2), (4, .int x4), (5, .int x5)]) kc_59_56 rfl rfl (xm_lt ml_59 rfl) ?_
              refine xi_iload (pc' := 59) (x := x4) kc_59_57 rfl rfl ?_
              by_cases c118 : x4.toInt = 0
              · refine xi_iff (pc' := 62) kc_59_59 rfl (xc_ne_f (X := x4.toInt) (Y := 0) rfl (by decide) (by omega)) ?_
                refine xi_aload_n (pc' := 63) (x := 115) kc_59_62 rfl rfl ?_
                refine xi_iload_n (pc' := 64) (x := x2) kc_59_63 rfl rfl ?_
                refine xi_iload (pc' := 66) (x := x5) kc_59_64 rfl rfl ?_
                refine xi_virtual (mj := 54) (as := [.int x2, .int x5]) (st1 := []) (lv0 := [(0, .ref 115), (1, .int x2), (2, .int x5)]) kc_59_66 rfl rfl rfl rfl rfl A107 (Nat.le_of_ble_eq_true rfl) (hJ _ _ _ _ (by decide)) (xm_le ml_54 rfl) rfl ?_
                refine xi_aload_n (pc' := 1) (x := 115) kc_54_0 rfl rfl ?_
                refine xi_getfield (pc' := 4) (v := .ref 152) kc_54_1 rfl rfl rfl A107 rfl ?_
                refine xi_iload_n (pc' := 5) (x := x2) kc_54_4 rfl rfl ?_
                refine xi_iaload (pc' := 6) (v := v115) kc_54_5 rfl A114 (by decide) rfl (xi_in (by omega) (by rw [hy114]; omega)) ev115 ?_
                refine xi_iload_n (pc' := 7) (x := x5) kc_54_6 rfl rfl ?_
                refine xi_iand (pc' := 8) (v := v116) kc_54_7 rfl ev116 ?_
                refine xi_ift (pc' := 15) kc_54_8 rfl (xc_eq_t (X := v116.toInt) (Y := 0) rfl (by decide) (by omega)) ?_
                refine xi_iconst (pc' := 16) (v := 2) kc_54_15 rfl rfl ?_
                refine xi_ireturn kc_54_16 mr_54 rfl ?_
                show xw J ov (d + 3) 59 (69, [(3, .int 0), (0, .ref 115), (1, .int x1), (2, .int x2), (4, .int x4), (5, .int x5)], [.int 2], hh91) _
                refine xi_iconst (pc' := 70) (v := 2) kc_59_69 rfl rfl ?_
                refine xi_cmf (pc' := 73) kc_59_70 rfl rfl ?_
                refine xi_iconst (pc' := 74) (v := 1) kc_59_73 rfl rfl ?_
                refine xi_goto (pc' := 78) kc_59_74 rfl ?_
                refine xi_istore (pc' := 80) (lv' := [(4, .int 1), (3, .int 0), (0, .ref 115), (1, .int x1), (2, .int x2), (5, .int x5)]) kc_59_78 rfl rfl (xm_lt ml_59 rfl) ?_
                obtain ⟨v119, ev119⟩ : ∃ q : Int32, x5 + 1 = q := ⟨_, rfl⟩
                have zv119 : v119.toInt = (x5.toInt + 1) := by rw [← ev119]; exact (xz_add (X := x5.toInt) (Y := 1) rfl (by decide) (by omega) (by omega)).trans (by omega)
                refine xi_iinc (pc' := 83) (x := x5) (v := v119) (lv' := [(5, .int v119), (4, .int 1), (3, .int 0), (0, .ref 115), (1, .int x1), (2, .int x2)]) kc_59_80 rfl rfl ev119 rfl (xm_lt ml_59 rfl) ?_
                refine xi_goto (pc' := 8) kc_59_83 rfl ?_
                have zc0 : (0 : Int32).toInt = 0 := by decide
                have zc1 : (1 : Int32).toInt = 1 := by decide
                refine xw_lv (b := [(0, .ref 115), (1, .int x1), (2, .int x2), (3, .int 0), (4, .int 1), (5, .int v119)]) (lvS_cons (lvS_cons (lvS_cons (lvS_cons (lvS_cons (lvS_cons (lvS_nil (show ([5, 4, 3, 0, 1, 2] : List Nat).Nodup by decide)) rfl) rfl) rfl) rfl) rfl) rfl) ?_
                exact i0 x1 x2 0 1 v119 hh91 (by omega) (by omega) (by omega) (by omega) (by omega) K93 (by omega)
              · refine xi_ift (pc' := 73) kc_59_59 rfl (xc_ne_t (X := x4.toInt) (Y := 0) rfl (by decide) (by omega)) ?_
                refine xi_iconst (pc' := 74) (v := 1) kc_59_73 rfl rfl ?_
                refine xi_goto (pc' := 78) kc_59_74 rfl ?_
                refine xi_istore (pc' := 80) (lv' := [(4, .int 1), (3, .int 0), (0, .ref 115), (1, .int x1), (2, .int x2), (5, .int x5)]) kc_59_78 rfl rfl (xm_lt ml_59 rfl) ?_
                obtain ⟨v120, ev120⟩ : ∃ q : Int32, x5 + 1 = q := ⟨_, rfl⟩
                have zv120 : v120.toInt = (x5.toInt + 1) := by rw [← ev120]; exact (xz_add (X := x5.toInt) (Y := 1) rfl (by decide) (by omega) (by omega)).trans (by omega)
                refine xi_iinc (pc' := 83) (x := x5) (v := v120) (lv' := [(5, .int v120), (4, .int 1), (3, .int 0), (0, .ref 115), (1, .int x1), (2, .int x2)]) kc_59_80 rfl rfl ev120 rfl (xm_lt ml_59 rfl) ?_
                refine xi_goto (pc' := 8) kc_59_83 rfl ?_
                have zc0 : (0 : Int32).toInt = 0 := by decide
                have zc1 : (1 : Int32).toInt = 1 := by decide
                refine xw_lv (b := [(0, .ref 115), (1, .int x1), (2, .int x2), (3, .int 0), (4, .int 1), (5, .int v120)]) (lvS_cons (lvS_cons (lvS_cons (lvS_cons (lvS_cons (lvS_cons (lvS_nil (show ([5, 4, 3, 0, 1, 2] : List Nat).Nodup by decide)) rfl) rfl) rfl) rfl) rfl) rfl) ?_
                exact i0 x1 x2 0 1 v120 hh91 (by omega) (by omega) (by omega) (by omega) (by omega) K93 (by omega)
            · refine xi_iff (pc' := 11) kc_54_8 rfl (xc_eq_f (X := v116.toInt) (Y := 0) rfl (by decide) (by omega)) ?_
              refine xi_iconst (pc' := 12) (v := 1) kc_54_11 rfl rfl ?_
              refine xi_goto (pc' := 16) kc_54_12 rfl ?_
              refine xi_ireturn kc_54_16 mr_54 rfl ?_
              show xw J ov (d + 3) 59 (47, [(0, .ref 115), (1, .int x1), (2, .int x2), (3, .int x3), (4, .int x4), (5, .int x5)], [.int 1], hh91) _
              refine xi_iconst (pc' := 48) (v := 1) kc_59_47 rfl rfl ?_
              refine xi_cmf (pc' := 51) kc_59_48 rfl rfl ?_
              refine xi_iconst (pc' := 52) (v := 1) kc_59_51 rfl rfl ?_
              refine xi_goto (pc' := 56) kc_59_52 rfl ?_
              refine xi_istore_n (pc' := 57) (lv' := [(3, .int 1), (0, .ref 115), (1, .int x1), (2, .int x2), (4, .int x4), (5, .int x5)]) kc_59_56 rfl rfl (xm_lt ml_59 rfl) ?_
              refine xi_iload (pc' := 59) (x := x4) kc_59_57 rfl rfl ?_
              by_cases c121 : x4.toInt = 0
              · refine xi_iff (pc' := 62) kc_59_59 rfl (xc_ne_f (X := x4.toInt) (Y := 0) rfl (by decide) (by omega)) ?_
                refine xi_aload_n (pc' := 63) (x := 115) kc_59_62 rfl rfl ?_
                refine xi_iload_n (pc' := 64) (x := x2) kc_59_63 rfl rfl ?_
                refine xi_iload (pc' := 66) (x := x5) kc_59_64 rfl rfl ?_
                refine xi_virtual (mj := 54) (as := [.int x2, .int x5]) (st1 := []) (lv0 := [(0, .ref 115), (1, .int x2), (2, .int x5)]) kc_59_66 rfl rfl rfl rfl rfl A107 (Nat.le_of_ble_eq_true rfl) (hJ _ _ _ _ (by decide)) (xm_le ml_54 rfl) rfl ?_
                refine xi_aload_n (pc' := 1) (x := 115) kc_54_0 rfl rfl ?_
                refine xi_getfield (pc' := 4) (v := .ref 152) kc_54_1 rfl rfl rfl A107 rfl ?_
                refine xi_iload_n (pc' := 5) (x := x2) kc_54_4 rfl rfl ?_
                refine xi_iaload (pc' := 6) (v := v115) kc_54_5 rfl A114 (by decide) rfl (xi_in (by omega) (by rw [hy114]; omega)) ev115 ?_
                refine xi_iload_n (pc' := 7) (x := x5) kc_54_6 rfl rfl ?_
                refine xi_iand (pc' := 8) (v := v116) kc_54_7 rfl ev116 ?_
                refine xi_iff (pc' := 11) kc_54_8 rfl (xc_eq_f (X := v116.toInt) (Y := 0) rfl (by decide) (by omega)) ?_
                refine xi_iconst (pc' := 12) (v := 1) kc_54_11 rfl rfl ?_
                refine xi_goto (pc' := 16) kc_54_12 rfl ?_
                refine xi_ireturn kc_54_16 mr_54 rfl ?_
                show xw J ov (d + 3) 59 (69, [(3, .int 1), (0, .ref 115), (1, .int x1), (2, .int x2), (4, .int x4), (5, .int x5)], [.int 1], hh91) _
                refine xi_iconst (pc' := 70) (v := 2) kc_59_69 rfl rfl ?_
                refine xi_cmt (pc' := 77) kc_59_70 rfl rfl ?_
                refine xi_iconst (pc' := 78) (v := 0) kc_59_77 rfl rfl ?_
                refine xi_istore (pc' := 80) (lv' := [(4, .int 0), (3, .int 1), (0, .ref 115), (1, .int x1), (2, .int x2), (5, .int x5)]) kc_59_78 rfl rfl (xm_lt ml_59 rfl) ?_
                obtain ⟨v122, ev122⟩ : ∃ q : Int32, x5 + 1 = q := ⟨_, rfl⟩
                have zv122 : v122.toInt = (x5.toInt + 1) := by rw [← ev122]; exact (xz_add (X := x5.toInt) (Y := 1) rfl (by decide) (by omega) (by omega)).trans (by omega)
                refine xi_iinc (pc' := 83) (x := x5) (v := v122) (lv' := [(5, .int v122), (4, .int 0), (3, .int 1), (0, .ref 115), (1, .int x1), (2, .int x2)]) kc_59_80 rfl rfl ev122 rfl (xm_lt ml_59 rfl) ?_
                refine xi_goto (pc' := 8) kc_59_83 rfl ?_
                have zc0 : (0 : Int32).toInt = 0 := by decide
                have zc1 : (1 : Int32).toInt = 1 := by decide
                refine xw_lv (b := [(0, .ref 115), (1, .int x1), (2, .int x2), (3, .int 1), (4, .int 0), (5, .int v122)]) (lvS_cons (lvS_cons (lvS_cons (lvS_cons (lvS_cons (lvS_cons (lvS_nil (show ([5, 4, 3, 0, 1, 2] : List Nat).Nodup by decide)) rfl) rfl) rfl) rfl) rfl) rfl) ?_
                exact i0 x1 x2 1 0 v122 hh91 (by omega) (by omega) (by omega) (by omega) (by omega) K93 (by omega)
              · refine xi_ift (pc' := 73) kc_59_59 rfl (xc_ne_t (X := x4.toInt) (Y := 0) rfl (by decide) (by omega)) ?_
                refine xi_iconst (pc' := 74) (v := 1) kc_59_73 rfl rfl ?_
                refine xi_goto (pc' := 78) kc_59_74 rfl ?_
                refine xi_istore (pc' := 80) (lv' := [(4, .int 1), (3, .int 1), (0, .ref 115), (1, .int x1), (2, .int x2), (5, .int x5)]) kc_59_78 rfl rfl (xm_lt ml_59 rfl) ?_
                obtain ⟨v123, ev123⟩ : ∃ q : Int32, x5 + 1 = q := ⟨_, rfl⟩
                have zv123 : v123.toInt = (x5.toInt + 1) := by rw [← ev123]; exact (xz_add (X := x5.toInt) (Y := 1) rfl (by decide) (by omega) (by omega)).trans (by omega)
                refine xi_iinc (pc' := 83) (x := x5) (v := v123) (lv' := [(5, .int v123), (4, .int 1), (3, .int 1), (0, .ref 115), (1, .int x1), (2, .int x2)]) kc_59_80 rfl rfl ev123 rfl (xm_lt ml_59 rfl) ?_
                refine xi_goto (pc' := 8) kc_59_83 rfl ?_
                have zc1 : (1 : Int32).toInt = 1 := by decide
                refine xw_lv (b := [(0, .ref 115), (1, .int x1), (2, .int x2), (3, .int 1), (4, .int 1), (5, .int v123)]) (lvS_cons (lvS_cons (lvS_cons (lvS_cons (lvS_cons (lvS_cons (lvS_nil (show ([5, 4, 3, 0, 1, 2] : List Nat).Nodup by decide)) rfl) rfl) rfl) rfl) rfl) rfl) ?_
                exact i0 x1 x2 1 1 v123 hh91 (by omega) (by omega) (by omega) (by omega) (by omega) K93 (by omega)
        · refine xi_iff (pc' := 21) kc_59_18 rfl (xc_eq_f (X := x3.toInt) (Y := 0) rfl (by decide) (by omega)) ?_
          refine xi_iload (pc' := 23) (x := x4) kc_59_21 rfl rfl ?_
          by_cases c124 : x4.toInt = 0
          · refine xi_iff (pc' := 26) kc_59_23 rfl (xc_ne_f (X := x4.toInt) (Y := 0) rfl (by decide) (by omega)) ?_
            refine xi_aload_n (pc' := 27) (x := 115) kc_59_26 rfl rfl ?_
            refine xi_iload (pc' := 29) (x := x5) kc_59_27 rfl rfl ?_
            refine xi_iload_n (pc' := 30) (x := x1) kc_59_29 rfl rfl ?_
            refine xi_virtual (mj := 60) (as := [.int x5, .int x1]) (st1 := []) (lv0 := [(0, .ref 115), (1, .int x5), (2, .int x1)]) kc_59_30 rfl rfl rfl rfl rfl A14 (Nat.le_of_ble_eq_true rfl) (hJ _ _ _ _ (by decide)) (xm_le ml_60 rfl) rfl ?_
            refine mt_60_0 hJ hov1 hov2 (d := d) (x1 := x5) (x2 := x1) K.1 (by first | omega | decide) (by first | omega | decide) (fun r125 hh126 br125 K127 => ?_)
            have K128 := xk_tr K K127 (xsb_ok _ _ (by decide +kernel))
            obtain ⟨u129, u130, u131, u132, u133, u134, u135, u136, u137, u138, u139, u140, u141, bu129, bu130, bu131, bu132, bu133, bu134, bu135, bu136, bu137, bu138, bu139, bu140, bu141, A142⟩ := xq_115 K128.1
            have e143 : u2 = u130 := xk_eqi (q := 1) K127 (by decide +kernel) A14 A142 rfl rfl
            subst e143
            have e144 : u5 = u133 := xk_eqi (q := 23) K127 (by decide +kernel) A14 A142 rfl rfl
            subst e144
            have e145 : u8 = u136 := xk_eqi (q := 34) K127 (by decide +kernel) A14 A142 rfl rfl
            subst e145
            have e146 : u6 = u134 := xk_eqi (q := 32) K127 (by decide +kernel) A14 A142 rfl rfl
            subst e146
            show xw J ov (d + 3) 59 (33, [(0, .ref 115), (1, .int x1), (2, .int x2), (3, .int x3), (4, .int x4), (5, .int x5)], [.int r125], hh126) _
            by_cases c147 : r125.toInt = 0
            · refine xi_ift (pc' := 80) kc_59_33 rfl (xc_eq_t (X := r125.toInt) (Y := 0) rfl (by decide) (by omega)) ?_
              obtain ⟨v148, ev148⟩ : ∃ q : Int32, x5 + 1 = q := ⟨_, rfl⟩
              have zv148 : v148.toInt = (x5.toInt + 1) := by rw [← ev148]; exact (xz_add (X := x5.toInt) (Y := 1) rfl (by decide) (by omega) (by omega)).trans (by omega)
              refine xi_iinc (pc' := 83) (x := x5) (v := v148) (lv' := [(5, .int v148), (0, .ref 115), (1, .int x1), (2, .int x2), (3, .int x3), (4, .int x4)]) kc_59_80 rfl rfl ev148 rfl (xm_lt ml_59 rfl) ?_
              refine xi_goto (pc' := 8) kc_59_83 rfl ?_
              refine xw_lv (b := [(0, .ref 115), (1, .int x1), (2, .int x2), (3, .int x3), (4, .int x4), (5, .int v148)]) (lvS_cons (lvS_cons (lvS_cons (lvS_cons (lvS_cons (lvS_cons (lvS_nil (show ([5, 0, 1, 2, 3, 4] : List Nat).Nodup by decide)) rfl) rfl) rfl) rfl) rfl) rfl) ?_
              exact i0 x1 x2 x3 x4 v148 hh126 (by omega) (by omega) (by omega) (by omega) (by omega) K128 (by omega)
            · refine xi_iff (pc' := 36) kc_59_33 rfl (xc_eq_f (X := r125.toInt) (Y := 0) rfl (by decide) (by omega)) ?_
              refine xi_iload_n (pc' := 37) (x := x3) kc_59_36 rfl rfl ?_
              refine xi_ift (pc' := 51) kc_59_37 rfl (xc_ne_t (X := x3.toInt) (Y := 0) rfl (by decide) (by omega)) ?_
              refine xi_iconst (pc' := 52) (v := 1) kc_59_51 rfl rfl ?_
              refine xi_goto (pc' := 56) kc_59_52 rfl ?_
              refine xi_istore_n (pc' := 57) (lv' := [(3, .int 1), (0, .ref 115), (1, .int x1), (2, .int x2), (4, .int x4), (5, .int x5)]) kc_59_56 rfl rfl (xm_lt ml_59 rfl) ?_
              refine xi_iload (pc' := 59) (x := x4) kc_59_57 rfl rfl ?_
              refine xi_iff (pc' := 62) kc_59_59 rfl (xc_ne_f (X := x4.toInt) (Y := 0) rfl (by decide) (by omega)) ?_
              refine xi_aload_n (pc' := 63) (x := 115) kc_59_62 rfl rfl ?_
              refine xi_iload_n (pc' := 64) (x := x2) kc_59_63 rfl rfl ?_
              refine xi_iload (pc' := 66) (x := x5) kc_59_64 rfl rfl ?_
              refine xi_virtual (mj := 54) (as := [.int x2, .int x5]) (st1 := []) (lv0 := [(0, .ref 115), (1, .int x2), (2, .int x5)]) kc_59_66 rfl rfl rfl rfl rfl A142 (Nat.le_of_ble_eq_true rfl) (hJ _ _ _ _ (by decide)) (xm_le ml_54 rfl) rfl ?_
              refine xi_aload_n (pc' := 1) (x := 115) kc_54_0 rfl rfl ?_
              refine xi_getfield (pc' := 4) (v := .ref 152) kc_54_1 rfl rfl rfl A142 rfl ?_
              refine xi_iload_n (pc' := 5) (x := x2) kc_54_4 rfl rfl ?_
              obtain ⟨y149, A149, hy149, ry149⟩ := xk_arr K128.1 xD_152
              obtain ⟨v150, ev150, bv150, dv150⟩ := xj_get hy149 ry149 (i := x2) (by omega) (by omega)
              refine xi_iaload (pc' := 6) (v := v150) kc_54_5 rfl A149 (by decide) rfl (xi_in (by omega) (by rw [hy149]; omega)) ev150 ?_
              refine xi_iload_n (pc' := 7) (x := x5) kc_54_6 rfl rfl ?_
              obtain ⟨v151, ev151⟩ : ∃ q : Int32, (v150 : Int32) &&& x5 = q := ⟨_, rfl⟩
              have rv151 := xc_rng v151
              refine xi_iand (pc' := 8) (v := v151) kc_54_7 rfl ev151 ?_
              by_cases c152 : v151.toInt = 0
              · refine xi_ift (pc' := 15) kc_54_8 rfl (xc_eq_t (X := v151.toInt) (Y := 0) rfl (by decide) (by omega)) ?_
                refine xi_iconst (pc' := 16) (v := 2) kc_54_15 rfl rfl ?_
                refine xi_ireturn kc_54_16 mr_54 rfl ?_
                show xw J ov (d + 3) 59 (69, [(3, .int 1), (0, .ref 115), (1, .int x1), (2, .int x2), (4, .int x4), (5, .int x5)], [.int 2], hh126) _
                refine xi_iconst (pc' := 70) (v := 2) kc_59_69 rfl rfl ?_
                refine xi_cmf (pc' := 73) kc_59_70 rfl rfl ?_
                refine xi_iconst (pc' := 74) (v := 1) kc_59_73 rfl rfl ?_
                refine xi_goto (pc' := 78) kc_59_74 rfl ?_
                refine xi_istore (pc' := 80) (lv' := [(4, .int 1), (3, .int 1), (0, .ref 115), (1, .int x1), (2, .int x2), (5, .int x5)]) kc_59_78 rfl rfl (xm_lt ml_59 rfl) ?_
                obtain ⟨v153, ev153⟩ : ∃ q : Int32, x5 + 1 = q := ⟨_, rfl⟩
                have zv153 : v153.toInt = (x5.toInt + 1) := by rw [← ev153]; exact (xz_add (X := x5.toInt) (Y := 1) rfl (by decide) (by omega) (by omega)).trans (by omega)
                refine xi_iinc (pc' := 83) (x := x5) (v := v153) (lv' := [(5, .int v153), (4, .int 1), (3, .int 1), (0, .ref 115), (1, .int x1), (2, .int x2)]) kc_59_80 rfl rfl ev153 rfl (xm_lt ml_59 rfl) ?_
                refine xi_goto (pc' := 8) kc_59_83 rfl ?_
                have zc1 : (1 : Int32).toInt = 1 := by decide
                refine xw_lv (b := [(0, .ref 115), (1, .int x1), (2, .int x2), (3, .int 1), (4, .int 1), (5, .int v153)]) (lvS_cons (lvS_cons (lvS_cons (lvS_cons (lvS_cons (lvS_cons (lvS_nil (show ([5, 4, 3, 0, 1, 2] : List Nat).Nodup by decide)) rfl) rfl) rfl) rfl) rfl) rfl) ?_
                exact i0 x1 x2 1 1 v153 hh126 (by omega) (by omega) (by omega) (by omega) (by omega) K128 (by omega)
              · refine xi_iff (pc' := 11) kc_54_8 rfl (xc_eq_f (X := v151.toInt) (Y := 0) rfl (by decide) (by omega)) ?_
                refine xi_iconst (pc' := 12) (v := 1) kc_54_11 rfl rfl ?_
                refine xi_goto (pc' := 16) kc_54_12 rfl ?_
                refine xi_ireturn kc_54_16 mr_54 rfl ?_
                show xw J ov (d + 3) 59 (69, [(3, .int 1), (0, .ref 115), (1, .int x1), (2, .int x2), (4, .int x4), (5, .int x5)], [.int 1], hh126) _
                refine xi_iconst (pc' := 70) (v := 2) kc_59_69 rfl rfl ?_
                refine xi_cmt (pc' := 77) kc_59_70 rfl rfl ?_
                refine xi_iconst (pc' := 78) (v := 0) kc_59_77 rfl rfl ?_
                refine xi_istore (pc' := 80) (lv' := [(4, .int 0), (3, .int 1), (0, .ref 115), (1, .int x1), (2, .int x2), (5, .int x5)]) kc_59_78 rfl rfl (xm_lt ml_59 rfl) ?_
                obtain ⟨v154, ev154⟩ : ∃ q : Int32, x5 + 1 = q := ⟨_, rfl⟩
                have zv154 : v154.toInt = (x5.toInt + 1) := by rw [← ev154]; exact (xz_add (X := x5.toInt) (Y := 1) rfl (by decide) (by omega) (by omega)).trans (by omega)
                refine xi_iinc (pc' := 83) (x := x5) (v := v154) (lv' := [(5, .int v154), (4, .int 0), (3, .int 1), (0, .ref 115), (1, .int x1), (2, .int x2)]) kc_59_80 rfl rfl ev154 rfl (xm_lt ml_59 rfl) ?_
                refine xi_goto (pc' := 8) kc_59_83 rfl ?_
                have zc0 : (0 : Int32).toInt = 0 := by decide
                have zc1 : (1 : Int32).toInt = 1 := by decide
                refine xw_lv (b := [(0, .ref 115), (1, .int x1), (2, .int x2), (3, .int 1), (4, .int 0), (5, .int v154)]) (lvS_cons (lvS_cons (lvS_cons (lvS_cons (lvS_cons (lvS_cons (lvS_nil (show ([5, 4, 3, 0, 1, 2] : List Nat).Nodup by decide)) rfl) rfl) rfl) rfl) rfl) rfl) ?_
                exact i0 x1 x2 1 0 v154 hh126 (by omega) (by omega) (by omega) (by omega) (by omega) K128 (by omega)
          · refine xi_ift (pc' := 86) kc_59_23 rfl (xc_ne_t (X := x4.toInt) (Y := 0) rfl (by decide) (by omega)) ?_
            refine xi_iload_n (pc' := 87) (x := x3) kc_59_86 rfl rfl ?_
            refine xi_iff (pc' := 90) kc_59_87 rfl (xc_eq_f (X := x3.toInt) (Y := 0) rfl (by decide) (by omega)) ?_
            refine xi_iload (pc' := 92) (x := x4) kc_59_90 rfl rfl ?_
            refine xi_iff (pc' := 95) kc_59_92 rfl (xc_eq_f (X := x4.toInt) (Y := 0) rfl (by decide) (by omega)) ?_
            refine xi_iconst (pc' := 96) (v := 1) kc_59_95 rfl rfl ?_
            refine xi_goto (pc' := 100) kc_59_96 rfl ?_
            refine xi_ireturn kc_59_100 mr_59 rfl ?_
            have zc1 : (1 : Int32).toInt = 1 := by decide
            exact kk 1 h (by omega) K
set_option maxHeartbeats 4000000 in
theorem mt_59_0 {J : xe_J} {ov : List (List Int32)} (hJ : ∀ d mj as h, mj ≠ xe_loff → J d mj as h = none) (hov1 : ov[1]? = some [10, 0, 0, 0, 0, 0]) (hov2 : ov[2]? = some [99, 30, 50, 50, 1, 99999]) {d : Nat} {Q : Option Value → xe_H → Prop} {h : xe_H} {x1 : Int32} {x2 : Int32} (T : xt h) (b1 : (0 ≤ x1.toInt ∧ x1.toInt ≤ 6560)) (b2 : (0 ≤ x2.toInt ∧ x2.toInt ≤ 7)) (kk : (∀ (r : Int32) (h' : xe_H), (0 ≤ r.toInt ∧ r.toInt ≤ 1) → xk xP_0 h h' → Q (some (.int r)) h')) : xw J ov (d + 3) 59 (0, [(0, .ref 115), (1, .int x1), (2, .int x2)], [], h) Q := by
  have K : xk xP_0 h h := xk_re T
  refine xi_iconst (pc' := 1) (v := 0) kc_59_0 rfl rfl ?_
  refine xi_istore_n (pc' := 2) (lv' := [(3, .int 0), (0, .ref 115), (1, .int x1), (2, .int x2)]) kc_59_1 rfl rfl (xm_lt ml_59 rfl) ?_
  refine xi_iconst (pc' := 3) (v := 0) kc_59_2 rfl rfl ?_
  refine xi_istore (pc' := 5) (lv' := [(4, .int 0), (3, .int 0), (0, .ref 115), (1, .int x1), (2, .int x2)]) kc_59_3 rfl rfl (xm_lt ml_59 rfl) ?_
  refine xi_iconst (pc' := 6) (v := 0) kc_59_5 rfl rfl ?_
  refine xi_istore (pc' := 8) (lv' := [(5, .int 0), (4, .int 0), (3, .int 0), (0, .ref 115), (1, .int x1), (2, .int x2)]) kc_59_6 rfl rfl (xm_lt ml_59 rfl) ?_
  have zc0 : (0 : Int32).toInt = 0 := by decide
  refine xw_lv (b := [(0, .ref 115), (1, .int x1), (2, .int x2), (3, .int 0), (4, .int 0), (5, .int 0)]) (lvS_cons (lvS_cons (lvS_cons (lvS_cons (lvS_cons (lvS_cons (lvS_nil (show ([5, 4, 3, 0, 1, 2] : List Nat).Nodup by decide)) rfl) rfl) rfl) rfl) rfl) rfl) ?_
  exact (lp_59_0 hJ hov1 hov2 (d := d) (hb := h) (fun r9 h9 b9 K9 => kk r9 h9 b9 (xk_tr K K9 (xsb_ok _ _ (by decide +kernel)))) 65) x1 x2 0 0 0 h (by omega) (by omega) (by omega) (by omega) (by omega) (xk_re K.1) (by omega)
set_option maxHeartbeats 4000000 in
theorem lp_58_0 {J : xe_J} {ov : List (List Int32)} (hJ : ∀ d mj as h, mj ≠ xe_loff → J d mj as h = none) (hov1 : ov[1]? = some [10, 0, 0, 0, 0, 0]) (hov2 : ov[2]? = some [99, 30, 50, 50, 1, 99999]) {d : Nat} {Q : Option Value → xe_H → Prop} {hb : xe_H} (kk : (∀ (r : Int32) (h' : xe_H), xk xP_0 hb h' → Q (some (.int r)) h')) : ∀ m : Nat, (∀ (x2 : Int32) (h : xe_H), (0 ≤ x2.toInt ∧ x2.toInt ≤ 0) → xk xP_0 hb h → (-1) * 0 + 65628 < (m : Int) → xw J ov (d + 7) 58 (15, [(0, .ref 115), (1, .int 1), (2, .int x2), (3, .int 0)], [], h) Q) ∧ (∀ (x2 : Int32) (h : xe_H), (0 ≤ x2.toInt ∧ x2.toInt ≤ 2) → xk xP_0 hb h → (-1) * 1 + 65628 < (m : Int) → xw J ov (d + 7) 58 (15, [(0, .ref 115), (1, .int 3), (2, .int x2), (3, .int 1)], [], h) Q) ∧ (∀ (x2 : Int32) (h : xe_H), (0 ≤ x2.toInt ∧ x2.toInt ≤ 8) → xk xP_0 hb h → (-1) * 2 + 65628 < (m : Int) → xw J ov (d + 7) 58 (15, [(0, .ref 115), (1, .int 9), (2, .int x2), (3, .int 2)], [], h) Q) ∧ (∀ (x2 : Int32) (h : xe_H), (0 ≤ x2.toInt ∧ x2.toInt ≤ 26) → xk xP_0 hb h → (-1) * 3 + 65628 < (m : Int) → xw J ov (d + 7) 58 (15, [(0, .ref 115), (1, .int 27), (2, .int x2), (3, .int 3)], [], h) Q) ∧ (∀ (x2 : Int32) (h : xe_H), (0 ≤ x2.toInt ∧ x2.toInt ≤ 80) → xk xP_0 hb h → (-1) * 4 + 65628 < (m : Int) → xw J ov (d + 7) 58 (15, [(0, .ref 115), (1, .int 81), (2, .int x2), (3, .int 4)], [], h) Q) ∧ (∀ (x2 : Int32) (h : xe_H), (0 ≤ x2.toInt ∧ x2.toInt ≤ 242) → xk xP_0 hb h → (-1) * 5 + 65628 < (m : Int) → xw J ov (d + 7) 58 (15, [(0, .ref 115), (1, .int 243), (2, .int x2), (3, .int 5)], [], h) Q) ∧ (∀ (x2 : Int32) (h : xe_H), (0 ≤ x2.toInt ∧ x2.toInt ≤ 728) → xk xP_0 hb h → (-1) * 6 + 65628 < (m : Int) → xw J ov (d + 7) 58 (15, [(0, .ref 115), (1, .int 729), (2, .int x2), (3, .int 6)], [], h) Q) ∧ (∀ (x2 : Int32) (h : xe_H), (0 ≤ x2.toInt ∧ x2.toInt ≤ 2186) → xk xP_0 hb h → (-1) * 7 + 65628 < (m : Int) → xw J ov (d + 7) 58 (15, [(0, .ref 115), (1, .int 2187), (2, .int x2), (3, .int 7)], [], h) Q) ∧ (∀ (x2 : Int32) (h : xe_H), (0 ≤ x2.toInt ∧ x2.toInt ≤ 6560) → xk xP_0 hb h → (-1) * 8 + 65628 < (m : Int) → xw J ov (d + 7) 58 (15, [(0, .ref 115), (1, .int 6561), (2, .int x2), (3, .int 8)], [], h) Q) ∧ (∀ (x2 : Int32) (x3 : Int32) (h : xe_H), (0 ≤ x2.toInt ∧ x2.toInt ≤ 6560) → ((-1) ≤ x3.toInt ∧ x3.toInt ≤ 6560) → xk xP_0 hb h → (10) * x3.toInt + 19 < (m : Int) → xw J ov (d + 7) 58 (48, [(0, .ref 115), (2, .int x2), (3, .int x3)], [], h) Q) ∧ (∀ (x2 : Int32) (x3 : Int32) (x4 : Int32) (h : xe_H), (0 ≤ x2.toInt ∧ x2.toInt ≤ 6560) → (0 ≤ x3.toInt ∧ x3.toInt ≤ 6560) → ((-1) ≤ x4.toInt ∧ x4.toInt ≤ (-1)) → xk xP_0 hb h → (10) * x3.toInt + (-1) * 0 + 18 < (m : Int) → xw J ov (d + 7) 58 (62, [(0, .ref 115), (2, .int x2), (3, .int x3), (4, .int x4), (5, .int 1), (6, .int 0)], [], h) Q) ∧ (∀ (x2 : Int32) (x3 : Int32) (x4 : Int32) (h : xe_H), (0 ≤ x2.toInt ∧ x2.toInt ≤ 6560) → (0 ≤ x3.toInt ∧ x3.toInt ≤ 6560) → xk xP_0 hb h → (10) * x3.toInt + (-1) * 1 + 18 < (m : Int) → xw J ov (d + 7) 58 (62, [(0, .ref 115), (2, .int x2), (3, .int x3), (4, .int x4), (5, .int 3), (6, .int 1)], [], h) Q) ∧ (∀ (x2 : Int32) (x3 : Int32) (x4 : Int32) (h : xe_H), (0 ≤ x2.toInt ∧ x2.toInt ≤ 6560) → (0 ≤ x3.toInt ∧ x3.toInt ≤ 6560) → xk xP_0 hb h → (10) * x3.toInt + (-1) * 2 + 18 < (m : Int) → xw J ov (d + 7) 58 (62, [(0, .ref 115), (2, .int x2), (3, .int x3), (4, .int x4), (5, .int 9), (6, .int 2)], [], h) Q) ∧ (∀ (x2 : Int32) (x3 : Int32) (x4 : Int32) (h : xe_H), (0 ≤ x2.toInt ∧ x2.toInt ≤ 6560) → (0 ≤ x3.toInt ∧ x3.toInt ≤ 6560) → xk xP_0 hb h → (10) * x3.toInt + (-1) * 3 + 18 < (m : Int) → xw J ov (d + 7) 58 (62, [(0, .ref 115), (2, .int x2), (3, .int x3), (4, .int x4), (5, .int 27), (6, .int 3)], [], h) Q) ∧ (∀ (x2 : Int32) (x3 : Int32) (x4 : Int32) (h : xe_H), (0 ≤ x2.toInt ∧ x2.toInt ≤ 6560) → (0 ≤ x3.toInt ∧ x3.toInt ≤ 6560) → xk xP_0 hb h → (10) * x3.toInt + (-1) * 4 + 18 < (m : Int) → xw J ov (d + 7) 58 (62, [(0, .ref 115), (2, .int x2), (3, .int x3), (4, .int x4), (5, .int 81), (6, .int 4)], [], h) Q) ∧ (∀ (x2 : Int32) (x3 : Int32) (x4 : Int32) (h : xe_H), (0 ≤ x2.toInt ∧ x2.toInt ≤ 6560) → (0 ≤ x3.toInt ∧ x3.toInt ≤ 6560) → xk xP_0 hb h → (10) * x3.toInt + (-1) * 5 + 18 < (m : Int) → xw J ov (d + 7) 58 (62, [(0, .ref 115), (2, .int x2), (3, .int x3), (4, .int x4), (5, .int 243), (6, .int 5)], [], h) Q) ∧ (∀ (x2 : Int32) (x3 : Int32) (x4 : Int32) (h : xe_H), (0 ≤ x2.toInt ∧ x2.toInt ≤ 6560) → (0 ≤ x3.toInt ∧ x3.toInt ≤ 6560) → xk xP_0 hb h → (10) * x3.toInt + (-1) * 6 + 18 < (m : Int) → xw J ov (d + 7) 58 (62, [(0, .ref 115), (2, .int x2), (3, .int x3), (4, .int x4), (5, .int 729), (6, .int 6)], [], h) Q) ∧ (∀ (x2 : Int32) (x3 : Int32) (x4 : Int32) (h : xe_H), (0 ≤ x2.toInt ∧ x2.toInt ≤ 6560) → (0 ≤ x3.toInt ∧ x3.toInt ≤ 6560) → xk xP_0 hb h → (10) * x3.toInt + (-1) * 7 + 18 < (m : Int) → xw J ov (d + 7) 58 (62, [(0, .ref 115), (2, .int x2), (3, .int x3), (4, .int x4), (5, .int 2187), (6, .int 7)], [], h) Q) ∧ (∀ (x2 : Int32) (x3 : Int32) (x4 : Int32) (h : xe_H), (0 ≤ x2.toInt ∧ x2.toInt ≤ 6560) → (0 ≤ x3.toInt ∧ x3.toInt ≤ 6560) → xk xP_0 hb h → (10) * x3.toInt + (-1) * 8 + 18 < (m : Int) → xw J ov (d + 7) 58 (62, [(0, .ref 115), (2, .int x2), (3, .int x3), (4, .int x4), (5, .int 6561), (6, .int 8)], [], h) Q) := by
  intro m
  induction m with
  | zero =>
    refine ⟨?_, ?_, ?_, ?_, ?_, ?_, ?_, ?_, ?_, ?_, ?_, ?_, ?_, ?_, ?_, ?_, ?_, ?_, ?_⟩
    · intro x2 h b2 K hm; exfalso; omega
    · intro x2 h b2 K hm; exfalso; omega
    · intro x2 h b2 K hm; exfalso; omega
    · intro x2 h b2 K hm; exfalso; omega
    · intro x2 h b2 K hm; exfalso; omega
    · intro x2 h b2 K hm; exfalso; omega
    · intro x2 h b2 K hm; exfalso; omega
    · intro x2 h b2 K hm; exfalso; omega
    · intro x2 h b2 K hm; exfalso; omega
    · intro x2 x3 h b2 b3 K hm; exfalso; omega
    · intro x2 x3 x4 h b2 b3 b4 K hm; exfalso; omega
    · intro x2 x3 x4 h b2 b3 K hm; have rx4 := xc_rng x4; exfalso; omega
    · intro x2 x3 x4 h b2 b3 K hm; have rx4 := xc_rng x4; exfalso; omega
    · intro x2 x3 x4 h b2 b3 K hm; have rx4 := xc_rng x4; exfalso; omega
    · intro x2 x3 x4 h b2 b3 K hm; have rx4 := xc_rng x4; exfalso; omega
    · intro x2 x3 x4 h b2 b3 K hm; have rx4 := xc_rng x4; exfalso; omega
    · intro x2 x3 x4 h b2 b3 K hm; have rx4 := xc_rng x4; exfalso; omega
    · intro x2 x3 x4 h b2 b3 K hm; have rx4 := xc_rng x4; exfalso; omega
    · intro x2 x3 x4 h b2 b3 K hm; have rx4 := xc_rng x4; exfalso; omega
  | succ m ih =>
    obtain ⟨i0, i1, i2, i3, i4, i5, i6, i7, i8, i9, i10, i11, i12, i13, i14, i15, i16, i17, i18⟩ := ih
    refine ⟨?_, ?_, ?_, ?_, ?_, ?_, ?_, ?_, ?_, ?_, ?_, ?_, ?_, ?_, ?_, ?_, ?_, ?_, ?_⟩
    · intro x2 h b2 K hm
      refine xi_iload_n (pc' := 16) (x := 0) kc_58_15 rfl rfl ?_
      refine xi_aload_n (pc' := 17) (x := 115) kc_58_16 rfl rfl ?_
      obtain ⟨u1, u2, u3, u4, u5, u6, u7, u8, u9, u10, u11, u12, u13, bu1, bu2, bu3, bu4, bu5, bu6, bu7, bu8, bu9, bu10, bu11, bu12, bu13, A14⟩ := xq_115 K.1
      refine xi_getfield (pc' := 20) (v := .int u10) kc_58_17 rfl rfl rfl A14 rfl ?_
      by_cases c15 : u10.toInt ≤ 0
      · refine xi_cmt (pc' := 44) kc_58_20 rfl (xc_ge_t (X := 0) (Y := u10.toInt) (by decide) rfl (by omega)) ?_
        refine xi_iload_n (pc' := 45) (x := 1) kc_58_44 rfl rfl ?_
        refine xi_iconst (pc' := 46) (v := 1) kc_58_45 rfl rfl ?_
        refine xi_isub (pc' := 47) (v := 0) kc_58_46 rfl rfl ?_
        refine xi_istore_n (pc' := 48) (lv' := [(3, .int 0), (0, .ref 115), (1, .int 1), (2, .int x2)]) kc_58_47 rfl rfl (xm_lt ml_58 rfl) ?_
        have zc0 : (0 : Int32).toInt = 0 := by decide
        refine xw_lv (b := [(0, .ref 115), (2, .int x2), (3, .int 0)]) (lvS_cons (lvS_cons (lvS_cons (lvS_nil (show ([3, 0, 1, 2] : List Nat).Nodup by decide)) rfl) rfl) rfl) ?_
        exact i9 x2 0 h (by omega) (by omega) K (by omega)
      · refine xi_cmf (pc' := 23) kc_58_20 rfl (xc_ge_f (X := 0) (Y := u10.toInt) (by decide) rfl (by omega)) ?_
        refine xi_iload_n (pc' := 24) (x := x2) kc_58_23 rfl rfl ?_
        refine xi_iload_n (pc' := 25) (x := 1) kc_58_24 rfl rfl ?_
        refine xi_aload_n (pc' := 26) (x := 115) kc_58_25 rfl rfl ?_
        refine xi_getfield (pc' := 29) (v := .ref 154) kc_58_26 rfl rfl rfl A14 rfl ?_
        refine xi_iload_n (pc' := 30) (x := 0) kc_58_29 rfl rfl ?_
        obtain ⟨y16, A16, hy16, ry16⟩ := xk_arr K.1 xD_154
        obtain ⟨v17, ev17, bv17, dv17⟩ := xj_get hy16 ry16 (i := 0) (by decide) (by decide)
        refine xi_iaload (pc' := 31) (v := v17) kc_58_30 rfl A16 (by decide) rfl (xi_in (by decide) (by rw [hy16]; decide)) ev17 ?_
        obtain ⟨v18, ev18⟩ : ∃ q : Int32, 1 * v17 = q := ⟨_, rfl⟩
        have zv18 : v18.toInt = v17.toInt := by rw [← ev18]; exact (xz_mul (X := 1) (Y := v17.toInt) (by decide) rfl (by omega) (by omega)).trans (by omega)
        refine xi_imul (pc' := 32) (v := v18) kc_58_31 rfl ev18 ?_
        obtain ⟨v19, ev19⟩ : ∃ q : Int32, x2 + v18 = q := ⟨_, rfl⟩
        have zv19 : v19.toInt = (x2.toInt + v17.toInt) := by rw [← ev19]; exact (xz_add (X := x2.toInt) (Y := v17.toInt) rfl zv18 (by omega) (by omega)).trans (by omega)
        refine xi_iadd (pc' := 33) (v := v19) kc_58_32 rfl ev19 ?_
        refine xi_istore_n (pc' := 34) (lv' := [(2, .int v19), (0, .ref 115), (1, .int 1), (3, .int 0)]) kc_58_33 rfl rfl (xm_lt ml_58 rfl) ?_
        refine xi_iload_n (pc' := 35) (x := 1) kc_58_34 rfl rfl ?_
        refine xi_iconst (pc' := 36) (v := 3) kc_58_35 rfl rfl ?_
        refine xi_imul (pc' := 37) (v := 3) kc_58_36 rfl rfl ?_
        refine xi_istore_n (pc' := 38) (lv' := [(1, .int 3), (2, .int v19), (0, .ref 115), (3, .int 0)]) kc_58_37 rfl rfl (xm_lt ml_58 rfl) ?_
        refine xi_iinc (pc' := 41) (x := 0) (v := 1) (lv' := [(3, .int 1), (1, .int 3), (2, .int v19), (0, .ref 115)]) kc_58_38 rfl rfl rfl rfl (xm_lt ml_58 rfl) ?_
        refine xi_goto (pc' := 15) kc_58_41 rfl ?_
        have zc1 : (1 : Int32).toInt = 1 := by decide
        have zc3 : (3 : Int32).toInt = 3 := by decide
        refine xw_lv (b := [(0, .ref 115), (1, .int 3), (2, .int v19), (3, .int 1)]) (lvS_cons (lvS_cons (lvS_cons (lvS_cons (lvS_nil (show ([3, 1, 2, 0] : List Nat).Nodup by decide)) rfl) rfl) rfl) rfl) ?_
        exact i1 v19 h (by omega) K (by omega)
    · intro x2 h b2 K hm
      refine xi_iload_n (pc' := 16) (x := 1) kc_58_15 rfl rfl ?_
      refine xi_aload_n (pc' := 17) (x := 115) kc_58_16 rfl rfl ?_
      obtain ⟨u1, u2, u3, u4, u5, u6, u7, u8, u9, u10, u11, u12, u13, bu1, bu2, bu3, bu4, bu5, bu6, bu7, bu8, bu9, bu10, bu11, bu12, bu13, A14⟩ := xq_115 K.1
      refine xi_getfield (pc' := 20) (v := .int u10) kc_58_17 rfl rfl rfl A14 rfl ?_
      by_cases c15 : u10.toInt ≤ 1
      · refine xi_cmt (pc' := 44) kc_58_20 rfl (xc_ge_t (X := 1) (Y := u10.toInt) (by decide) rfl (by omega)) ?_
        refine xi_iload_n (pc' := 45) (x := 3) kc_58_44 rfl rfl ?_
        refine xi_iconst (pc' := 46) (v := 1) kc_58_45 rfl rfl ?_
        refine xi_isub (pc' := 47) (v := 2) kc_58_46 rfl rfl ?_
        refine xi_istore_n (pc' := 48) (lv' := [(3, .int 2), (0, .ref 115), (1, .int 3), (2, .int x2)]) kc_58_47 rfl rfl (xm_lt ml_58 rfl) ?_
        have zc2 : (2 : Int32).toInt = 2 := by decide
        refine xw_lv (b := [(0, .ref 115), (2, .int x2), (3, .int 2)]) (lvS_cons (lvS_cons (lvS_cons (lvS_nil (show ([3, 0, 1, 2] : List Nat).Nodup by decide)) rfl) rfl) rfl) ?_
        exact i9 x2 2 h (by omega) (by omega) K (by omega)
      · refine xi_cmf (pc' := 23) kc_58_20 rfl (xc_ge_f (X := 1) (Y := u10.toInt) (by decide) rfl (by omega)) ?_
        refine xi_iload_n (pc' := 24) (x := x2) kc_58_23 rfl rfl ?_
        refine xi_iload_n (pc' := 25) (x := 3) kc_58_24 rfl rfl ?_
        refine xi_aload_n (pc' := 26) (x := 115) kc_58_25 rfl rfl ?_
        refine xi_getfield (pc' := 29) (v := .ref 154) kc_58_26 rfl rfl rfl A14 rfl ?_
        refine xi_iload_n (pc' := 30) (x := 1) kc_58_29 rfl rfl ?_
        obtain ⟨y16, A16, hy16, ry16⟩ := xk_arr K.1 xD_154
        obtain ⟨v17, ev17, bv17, dv17⟩ := xj_get hy16 ry16 (i := 1) (by decide) (by decide)
        refine xi_iaload (pc' := 31) (v := v17) kc_58_30 rfl A16 (by decide) rfl (xi_in (by decide) (by rw [hy16]; decide)) ev17 ?_
        obtain ⟨v18, ev18⟩ : ∃ q : Int32, 3 * v17 = q := ⟨_, rfl⟩
        have zv18 : v18.toInt = (3) * v17.toInt := by rw [← ev18]; exact (xz_mul (X := 3) (Y := v17.toInt) (by decide) rfl (by omega) (by omega)).trans (by omega)
        refine xi_imul (pc' := 32) (v := v18) kc_58_31 rfl ev18 ?_
        obtain ⟨v19, ev19⟩ : ∃ q : Int32, x2 + v18 = q := ⟨_, rfl⟩
        have zv19 : v19.toInt = (x2.toInt + (3) * v17.toInt) := by rw [← ev19]; exact (xz_add (X := x2.toInt) (Y := (3) * v17.toInt) rfl zv18 (by omega) (by omega)).trans (by omega)
        refine xi_iadd (pc' := 33) (v := v19) kc_58_32 rfl ev19 ?_
        refine xi_istore_n (pc' := 34) (lv' := [(2, .int v19), (0, .ref 115), (1, .int 3), (3, .int 1)]) kc_58_33 rfl rfl (xm_lt ml_58 rfl) ?_
        refine xi_iload_n (pc' := 35) (x := 3) kc_58_34 rfl rfl ?_
        refine xi_iconst (pc' := 36) (v := 3) kc_58_35 rfl rfl ?_
        refine xi_imul (pc' := 37) (v := 9) kc_58_36 rfl rfl ?_
        refine xi_istore_n (pc' := 38) (lv' := [(1, .int 9), (2, .int v19), (0, .ref 115), (3, .int 1)]) kc_58_37 rfl rfl (xm_lt ml_58 rfl) ?_
        refine xi_iinc (pc' := 41) (x := 1) (v := 2) (lv' := [(3, .int 2), (1, .int 9), (2, .int v19), (0, .ref 115)]) kc_58_38 rfl rfl rfl rfl (xm_lt ml_58 rfl) ?_
        refine xi_goto (pc' := 15) kc_58_41 rfl ?_
        have zc2 : (2 : Int32).toInt = 2 := by decide
        have zc9 : (9 : Int32).toInt = 9 := by decide
        refine xw_lv (b := [(0, .ref 115), (1, .int 9), (2, .int v19), (3, .int 2)]) (lvS_cons (lvS_cons (lvS_cons (lvS_cons (lvS_nil (show ([3, 1, 2, 0] : List Nat).Nodup by decide)) rfl) rfl) rfl) rfl) ?_
        exact i2 v19 h (by omega) K (by omega)
    · intro x2 h b2 K hm
      refine xi_iload_n (pc' := 16) (x := 2) kc_58_15 rfl rfl ?_
      refine xi_aload_n (pc' := 17) (x := 115) kc_58_16 rfl rfl ?_
      obtain ⟨u1, u2, u3, u4, u5, u6, u7, u8, u9, u10, u11, u12, u13, bu1, bu2, bu3, bu4, bu5, bu6, bu7, bu8, bu9, bu10, bu11, bu12, bu13, A14⟩ := xq_115 K.1
      refine xi_getfield (pc' := 20) (v := .int u10) kc_58_17 rfl rfl rfl A14 rfl ?_
      by_cases c15 : u10.toInt ≤ 2
      · refine xi_cmt (pc' := 44) kc_58_20 rfl (xc_ge_t (X := 2) (Y := u10.toInt) (by decide) rfl (by omega)) ?_
        refine xi_iload_n (pc' := 45) (x := 9) kc_58_44 rfl rfl ?_
        refine xi_iconst (pc' := 46) (v := 1) kc_58_45 rfl rfl ?_
        refine xi_isub (pc' := 47) (v := 8) kc_58_46 rfl rfl ?_
        refine xi_istore_n (pc' := 48) (lv' := [(3, .int 8), (0, .ref 115), (1, .int 9), (2, .int x2)]) kc_58_47 rfl rfl (xm_lt ml_58 rfl) ?_
        have zc8 : (8 : Int32).toInt = 8 := by decide
        refine xw_lv (b := [(0, .ref 115), (2, .int x2), (3, .int 8)]) (lvS_cons (lvS_cons (lvS_cons (lvS_nil (show ([3, 0, 1, 2] : List Nat).Nodup by decide)) rfl) rfl) rfl) ?_
        exact i9 x2 8 h (by omega) (by omega) K (by omega)
      · refine xi_cmf (pc' := 23) kc_58_20 rfl (xc_ge_f (X := 2) (Y := u10.toInt) (by decide) rfl (by omega)) ?_
        refine xi_iload_n (pc' := 24) (x := x2) kc_58_23 rfl rfl ?_
        refine xi_iload_n (pc' := 25) (x := 9) kc_58_24 rfl rfl ?_
        refine xi_aload_n (pc' := 26) (x := 115) kc_58_25 rfl rfl ?_
        refine xi_getfield (pc' := 29) (v := .ref 154) kc_58_26 rfl rfl rfl A14 rfl ?_
        refine xi_iload_n (pc' := 30) (x := 2) kc_58_29 rfl rfl ?_
        obtain ⟨y16, A16, hy16, ry16⟩ := xk_arr K.1 xD_154
        obtain ⟨v17, ev17, bv17, dv17⟩ := xj_get hy16 ry16 (i := 2) (by decide) (by decide)
        refine xi_iaload (pc' := 31) (v := v17) kc_58_30 rfl A16 (by decide) rfl (xi_in (by decide) (by rw [hy16]; decide)) ev17 ?_
        obtain ⟨v18, ev18⟩ : ∃ q : Int32, 9 * v17 = q := ⟨_, rfl⟩
        have zv18 : v18.toInt = (9) * v17.toInt := by rw [← ev18]; exact (xz_mul (X := 9) (Y := v17.toInt) (by decide) rfl (by omega) (by omega)).trans (by omega)
        refine xi_imul (pc' := 32) (v := v18) kc_58_31 rfl ev18 ?_
        obtain ⟨v19, ev19⟩ : ∃ q : Int32, x2 + v18 = q := ⟨_, rfl⟩
        have zv19 : v19.toInt = (x2.toInt + (9) * v17.toInt) := by rw [← ev19]; exact (xz_add (X := x2.toInt) (Y := (9) * v17.toInt) rfl zv18 (by omega) (by omega)).trans (by omega)
        refine xi_iadd (pc' := 33) (v := v19) kc_58_32 rfl ev19 ?_
        refine xi_istore_n (pc' := 34) (lv' := [(2, .int v19), (0, .ref 115), (1, .int 9), (3, .int 2)]) kc_58_33 rfl rfl (xm_lt ml_58 rfl) ?_
        refine xi_iload_n (pc' := 35) (x := 9) kc_58_34 rfl rfl ?_
        refine xi_iconst (pc' := 36) (v := 3) kc_58_35 rfl rfl ?_
        refine xi_imul (pc' := 37) (v := 27) kc_58_36 rfl rfl ?_
        refine xi_istore_n (pc' := 38) (lv' := [(1, .int 27), (2, .int v19), (0, .ref 115), (3, .int 2)]) kc_58_37 rfl rfl (xm_lt ml_58 rfl) ?_
        refine xi_iinc (pc' := 41) (x := 2) (v := 3) (lv' := [(3, .int 3), (1, .int 27), (2, .int v19), (0, .ref 115)]) kc_58_38 rfl rfl rfl rfl (xm_lt ml_58 rfl) ?_
        refine xi_goto (pc' := 15) kc_58_41 rfl ?_
        have zc3 : (3 : Int32).toInt = 3 := by decide
        have zc27 : (27 : Int32).toInt = 27 := by decide
        refine xw_lv (b := [(0, .ref 115), (1, .int 27), (2, .int v19), (3, .int 3)]) (lvS_cons (lvS_cons (lvS_cons (lvS_cons (lvS_nil (show ([3, 1, 2, 0] : List Nat).Nodup by decide)) rfl) rfl) rfl) rfl) ?_
        exact i3 v19 h (by omega) K (by omega)
    · intro x2 h b2 K hm
      refine xi_iload_n (pc' := 16) (x := 3) kc_58_15 rfl rfl ?_
      refine xi_aload_n (pc' := 17) (x := 115) kc_58_16 rfl rfl ?_
      obtain ⟨u1, u2, u3, u4, u5, u6, u7, u8, u9, u10, u11, u12, u13, bu1, bu2, bu3, bu4, bu5, bu6, bu7, bu8, bu9, bu10, bu11, bu12, bu13, A14⟩ := xq_115 K.1
      refine xi_getfield (pc' := 20) (v := .int u10) kc_58_17 rfl rfl rfl A14 rfl ?_
      by_cases c15 : u10.toInt ≤ 3
      · refine xi_cmt (pc' := 44) kc_58_20 rfl (xc_ge_t (X := 3) (Y := u10.toInt) (by decide) rfl (by omega)) ?_
        refine xi_iload_n (pc' := 45) (x := 27) kc_58_44 rfl rfl ?_
        refine xi_iconst (pc' := 46) (v := 1) kc_58_45 rfl rfl ?_
        refine xi_isub (pc' := 47) (v := 26) kc_58_46 rfl rfl ?_
        refine xi_istore_n (pc' := 48) (lv' := [(3, .int 26), (0, .ref 115), (1, .int 27), (2, .int x2)]) kc_58_47 rfl rfl (xm_lt ml_58 rfl) ?_
        have zc26 : (26 : Int32).toInt = 26 := by decide
        refine xw_lv (b := [(0, .ref 115), (2, .int x2), (3, .int 26)]) (lvS_cons (lvS_cons (lvS_cons (lvS_nil (show ([3, 0, 1, 2] : List Nat).Nodup by decide)) rfl) rfl) rfl) ?_
        exact i9 x2 26 h (by omega) (by omega) K (by omega)
      · refine xi_cmf (pc' := 23) kc_58_20 rfl (xc_ge_f (X := 3) (Y := u10.toInt) (by decide) rfl (by omega)) ?_
        refine xi_iload_n (pc' := 24) (x := x2) kc_58_23 rfl rfl ?_
        refine xi_iload_n (pc' := 25) (x := 27) kc_58_24 rfl rfl ?_
        refine xi_aload_n (pc' := 26) (x := 115) kc_58_25 rfl rfl ?_
        refine xi_getfield (pc' := 29) (v := .ref 154) kc_58_26 rfl rfl rfl A14 rfl ?_
        refine xi_iload_n (pc' := 30) (x := 3) kc_58_29 rfl rfl ?_
        obtain ⟨y16, A16, hy16, ry16⟩ := xk_arr K.1 xD_154
        obtain ⟨v17, ev17, bv17, dv17⟩ := xj_get hy16 ry16 (i := 3) (by decide) (by decide)
        refine xi_iaload (pc' := 31) (v := v17) kc_58_30 rfl A16 (by decide) rfl (xi_in (by decide) (by rw [hy16]; decide)) ev17 ?_
        obtain ⟨v18, ev18⟩ : ∃ q : Int32, 27 * v17 = q := ⟨_, rfl⟩
        have zv18 : v18.toInt = (27) * v17.toInt := by rw [← ev18]; exact (xz_mul (X := 27) (Y := v17.toInt) (by decide) rfl (by omega) (by omega)).trans (by omega)
        refine xi_imul (pc' := 32) (v := v18) kc_58_31 rfl ev18 ?_
        obtain ⟨v19, ev19⟩ : ∃ q : Int32, x2 + v18 = q := ⟨_, rfl⟩
        have zv19 : v19.toInt = (x2.toInt + (27) * v17.toInt) := by rw [← ev19]; exact (xz_add (X := x2.toInt) (Y := (27) * v17.toInt) rfl zv18 (by omega) (by omega)).trans (by omega)
        refine xi_iadd (pc' := 33) (v := v19) kc_58_32 rfl ev19 ?_
        refine xi_istore_n (pc' := 34) (lv' := [(2, .int v19), (0, .ref 115), (1, .int 27), (3, .int 3)]) kc_58_33 rfl rfl (xm_lt ml_58 rfl) ?_
        refine xi_iload_n (pc' := 35) (x := 27) kc_58_34 rfl rfl ?_
        refine xi_iconst (pc' := 36) (v := 3) kc_58_35 rfl rfl ?_
        refine xi_imul (pc' := 37) (v := 81) kc_58_36 rfl rfl ?_
        refine xi_istore_n (pc' := 38) (lv' := [(1, .int 81), (2, .int v19), (0, .ref 115), (3, .int 3)]) kc_58_37 rfl rfl (xm_lt ml_58 rfl) ?_
        refine xi_iinc (pc' := 41) (x := 3) (v := 4) (lv' := [(3, .int 4), (1, .int 81), (2, .int v19), (0, .ref 115)]) kc_58_38 rfl rfl rfl rfl (xm_lt ml_58 rfl) ?_
        refine xi_goto (pc' := 15) kc_58_41 rfl ?_
        have zc4 : (4 : Int32).toInt = 4 := by decide
        have zc81 : (81 : Int32).toInt = 81 := by decide
        refine xw_lv (b := [(0, .ref 115), (1, .int 81), (2, .int v19), (3, .int 4)]) (lvS_cons (lvS_cons (lvS_cons (lvS_cons (lvS_nil (show ([3, 1, 2, 0] : List Nat).Nodup by decide)) rfl) rfl) rfl) rfl) ?_
        exact i4 v19 h (by omega) K (by omega)
    · intro x2 h b2 K hm
      refine xi_iload_n (pc' := 16) (x := 4) kc_58_15 rfl rfl ?_
      refine xi_aload_n (pc' := 17) (x := 115) kc_58_16 rfl rfl ?_
      obtain ⟨u1, u2, u3, u4, u5, u6, u7, u8, u9, u10, u11, u12, u13, bu1, bu2, bu3, bu4, bu5, bu6, bu7, bu8, bu9, bu10, bu11, bu12, bu13, A14⟩ := xq_115 K.1
      refine xi_getfield (pc' := 20) (v := .int u10) kc_58_17 rfl rfl rfl A14 rfl ?_
      by_cases c15 : u10.toInt ≤ 4
      · refine xi_cmt (pc' := 44) kc_58_20 rfl (xc_ge_t (X := 4) (Y := u10.toInt) (by decide) rfl (by omega)) ?_
        refine xi_iload_n (pc' := 45) (x := 81) kc_58_44 rfl rfl ?_
        refine xi_iconst (pc' := 46) (v := 1) kc_58_45 rfl rfl ?_
        refine xi_isub (pc' := 47) (v := 80) kc_58_46 rfl rfl ?_
        refine xi_istore_n (pc' := 48) (lv' := [(3, .int 80), (0, .ref 115), (1, .int 81), (2, .int x2)]) kc_58_47 rfl rfl (xm_lt ml_58 rfl) ?_
        have zc80 : (80 : Int32).toInt = 80 := by decide
        refine xw_lv (b := [(0, .ref 115), (2, .int x2), (3, .int 80)]) (lvS_cons (lvS_cons (lvS_cons (lvS_nil (show ([3, 0, 1, 2] : List Nat).Nodup by decide)) rfl) rfl) rfl) ?_
        exact i9 x2 80 h (by omega) (by omega) K (by omega)
      · refine xi_cmf (pc' := 23) kc_58_20 rfl (xc_ge_f (X := 4) (Y := u10.toInt) (by decide) rfl (by omega)) ?_
        refine xi_iload_n (pc' := 24) (x := x2) kc_58_23 rfl rfl ?_
        refine xi_iload_n (pc' := 25) (x := 81) kc_58_24 rfl rfl ?_
        refine xi_aload_n (pc' := 26) (x := 115) kc_58_25 rfl rfl ?_
        refine xi_getfield (pc' := 29) (v := .ref 154) kc_58_26 rfl rfl rfl A14 rfl ?_
        refine xi_iload_n (pc' := 30) (x := 4) kc_58_29 rfl rfl ?_
        obtain ⟨y16, A16, hy16, ry16⟩ := xk_arr K.1 xD_154
        obtain ⟨v17, ev17, bv17, dv17⟩ := xj_get hy16 ry16 (i := 4) (by decide) (by decide)
        refine xi_iaload (pc' := 31) (v := v17) kc_58_30 rfl A16 (by decide) rfl (xi_in (by decide) (by rw [hy16]; decide)) ev17 ?_
        obtain ⟨v18, ev18⟩ : ∃ q : Int32, 81 * v17 = q := ⟨_, rfl⟩
        have zv18 : v18.toInt = (81) * v17.toInt := by rw [← ev18]; exact (xz_mul (X := 81) (Y := v17.toInt) (by decide) rfl (by omega) (by omega)).trans (by omega)
        refine xi_imul (pc' := 32) (v := v18) kc_58_31 rfl ev18 ?_
        obtain ⟨v19, ev19⟩ : ∃ q : Int32, x2 + v18 = q := ⟨_, rfl⟩
        have zv19 : v19.toInt = (x2.toInt + (81) * v17.toInt) := by rw [← ev19]; exact (xz_add (X := x2.toInt) (Y := (81) * v17.toInt) rfl zv18 (by omega) (by omega)).trans (by omega)
        refine xi_iadd (pc' := 33) (v := v19) kc_58_32 rfl ev19 ?_
        refine xi_istore_n (pc' := 34) (lv' := [(2, .int v19), (0, .ref 115), (1, .int 81), (3, .int 4)]) kc_58_33 rfl rfl (xm_lt ml_58 rfl) ?_
        refine xi_iload_n (pc' := 35) (x := 81) kc_58_34 rfl rfl ?_
        refine xi_iconst (pc' := 36) (v := 3) kc_58_35 rfl rfl ?_
        refine xi_imul (pc' := 37) (v := 243) kc_58_36 rfl rfl ?_
        refine xi_istore_n (pc' := 38) (lv' := [(1, .int 243), (2, .int v19), (0, .ref 115), (3, .int 4)]) kc_58_37 rfl rfl (xm_lt ml_58 rfl) ?_
        refine xi_iinc (pc' := 41) (x := 4) (v := 5) (lv' := [(3, .int 5), (1, .int 243), (2, .int v19), (0, .ref 115)]) kc_58_38 rfl rfl rfl rfl (xm_lt ml_58 rfl) ?_
        refine xi_goto (pc' := 15) kc_58_41 rfl ?_
        have zc5 : (5 : Int32).toInt = 5 := by decide
        have zc243 : (243 : Int32).toInt = 243 := by decide
        refine xw_lv (b := [(0, .ref 115), (1, .int 243), (2, .int v19), (3, .int 5)]) (lvS_cons (lvS_cons (lvS_cons (lvS_cons (lvS_nil (show ([3, 1, 2, 0] : List Nat).Nodup by decide)) rfl) rfl) rfl) rfl) ?_
        exact i5 v19 h (by omega) K (by omega)
    · intro x2 h b2 K hm
      refine xi_iload_n (pc' := 16) (x := 5) kc_58_15 rfl rfl ?_
      refine xi_aload_n (pc' := 17) (x := 115) kc_58_16 rfl rfl ?_
      obtain ⟨u1, u2, u3, u4, u5, u6, u7, u8, u9, u10, u11, u12, u13, bu1, bu2, bu3, bu4, bu5, bu6, bu7, bu8, bu9, bu10, bu11, bu12, bu13, A14⟩ := xq_115 K.1
      refine xi_getfield (pc' := 20) (v := .int u10) kc_58_17 rfl rfl rfl A14 rfl ?_
      by_cases c15 : u10.toInt ≤ 5
      · refine xi_cmt (pc' := 44) kc_58_20 rfl (xc_ge_t (X := 5) (Y := u10.toInt) (by decide) rfl (by omega)) ?_
        refine xi_iload_n (pc' := 45) (x := 243) kc_58_44 rfl rfl ?_
        refine xi_iconst (pc' := 46) (v := 1) kc_58_45 rfl rfl ?_
        refine xi_isub (pc' := 47) (v := 242) kc_58_46 rfl rfl ?_
        refine xi_istore_n (pc' := 48) (lv' := [(3, .int 242), (0, .ref 115), (1, .int 243), (2, .int x2)]) kc_58_47 rfl rfl (xm_lt ml_58 rfl) ?_
        have zc242 : (242 : Int32).toInt = 242 := by decide
        refine xw_lv (b := [(0, .ref 115), (2, .int x2), (3, .int 242)]) (lvS_cons (lvS_cons (lvS_cons (lvS_nil (show ([3, 0, 1, 2] : List Nat).Nodup by decide)) rfl) rfl) rfl) ?_
        exact i9 x2 242 h (by omega) (by omega) K (by omega)
      · refine xi_cmf (pc' := 23) kc_58_20 rfl (xc_ge_f (X := 5) (Y := u10.toInt) (by decide) rfl (by omega)) ?_
        refine xi_iload_n (pc' := 24) (x := x2) kc_58_23 rfl rfl ?_
        refine xi_iload_n (pc' := 25) (x := 243) kc_58_24 rfl rfl ?_
        refine xi_aload_n (pc' := 26) (x := 115) kc_58_25 rfl rfl ?_
        refine xi_getfield (pc' := 29) (v := .ref 154) kc_58_26 rfl rfl rfl A14 rfl ?_
        refine xi_iload_n (pc' := 30) (x := 5) kc_58_29 rfl rfl ?_
        obtain ⟨y16, A16, hy16, ry16⟩ := xk_arr K.1 xD_154
        obtain ⟨v17, ev17, bv17, dv17⟩ := xj_get hy16 ry16 (i := 5) (by decide) (by decide)
        refine xi_iaload (pc' := 31) (v := v17) kc_58_30 rfl A16 (by decide) rfl (xi_in (by decide) (by rw [hy16]; decide)) ev17 ?_
        obtain ⟨v18, ev18⟩ : ∃ q : Int32, 243 * v17 = q := ⟨_, rfl⟩
        have zv18 : v18.toInt = (243) * v17.toInt := by rw [← ev18]; exact (xz_mul (X := 243) (Y := v17.toInt) (by decide) rfl (by omega) (by omega)).trans (by omega)
        refine xi_imul (pc' := 32) (v := v18) kc_58_31 rfl ev18 ?_
        obtain ⟨v19, ev19⟩ : ∃ q : Int32, x2 + v18 = q := ⟨_, rfl⟩
        have zv19 : v19.toInt = (x2.toInt + (243) * v17.toInt) := by rw [← ev19]; exact (xz_add (X := x2.toInt) (Y := (243) * v17.toInt) rfl zv18 (by omega) (by omega)).trans (by omega)
        refine xi_iadd (pc' := 33) (v := v19) kc_58_32 rfl ev19 ?_
        refine xi_istore_n (pc' := 34) (lv' := [(2, .int v19), (0, .ref 115), (1, .int 243), (3, .int 5)]) kc_58_33 rfl rfl (xm_lt ml_58 rfl) ?_
        refine xi_iload_n (pc' := 35) (x := 243) kc_58_34 rfl rfl ?_
        refine xi_iconst (pc' := 36) (v := 3) kc_58_35 rfl rfl ?_
        refine xi_imul (pc' := 37) (v := 729) kc_58_36 rfl rfl ?_
        refine xi_istore_n (pc' := 38) (lv' := [(1, .int 729), (2, .int v19), (0, .ref 115), (3, .int 5)]) kc_58_37 rfl rfl (xm_lt ml_58 rfl) ?_
        refine xi_iinc (pc' := 41) (x := 5) (v := 6) (lv' := [(3, .int 6), (1, .int 729), (2, .int v19), (0, .ref 115)]) kc_58_38 rfl rfl rfl rfl (xm_lt ml_58 rfl) ?_
        refine xi_goto (pc' := 15) kc_58_41 rfl ?_
        have zc6 : (6 : Int32).toInt = 6 := by decide
        have zc729 : (729 : Int32).toInt = 729 := by decide
        refine xw_lv (b := [(0, .ref 115), (1, .int 729), (2, .int v19), (3, .int 6)]) (lvS_cons (lvS_cons (lvS_cons (lvS_cons (lvS_nil (show ([3, 1, 2, 0] : List Nat).Nodup by decide)) rfl) rfl) rfl) rfl) ?_
        exact i6 v19 h (by omega) K (by omega)
    · intro x2 h b2 K hm
      refine xi_iload_n (pc' := 16) (x := 6) kc_58_15 rfl rfl ?_
      refine xi_aload_n (pc' := 17) (x := 115) kc_58_16 rfl rfl ?_
      obtain ⟨u1, u2, u3, u4, u5, u6, u7, u8, u9, u10, u11, u12, u13, bu1, bu2, bu3, bu4, bu5, bu6, bu7, bu8, bu9, bu10, bu11, bu12, bu13, A14⟩ := xq_115 K.1
      refine xi_getfield (pc' := 20) (v := .int u10) kc_58_17 rfl rfl rfl A14 rfl ?_
      by_cases c15 : u10.toInt ≤ 6
      · refine xi_cmt (pc' := 44) kc_58_20 rfl (xc_ge_t (X := 6) (Y := u10.toInt) (by decide) rfl (by omega)) ?_
        refine xi_iload_n (pc' := 45) (x := 729) kc_58_44 rfl rfl ?_
        refine xi_iconst (pc' := 46) (v := 1) kc_58_45 rfl rfl ?_
        refine xi_isub (pc' := 47) (v := 728) kc_58_46 rfl rfl ?_
        refine xi_istore_n (pc' := 48) (lv' := [(3, .int 728), (0, .ref 115), (1, .int 729), (2, .int x2)]) kc_58_47 rfl rfl (xm_lt ml_58 rfl) ?_
        have zc728 : (728 : Int32).toInt = 728 := by decide
        refine xw_lv (b := [(0, .ref 115), (2, .int x2), (3, .int 728)]) (lvS_cons (lvS_cons (lvS_cons (lvS_nil (show ([3, 0, 1, 2] : List Nat).Nodup by decide)) rfl) rfl) rfl) ?_
        exact i9 x2 728 h (by omega) (by omega) K (by omega)
      · refine xi_cmf (pc' := 23) kc_58_20 rfl (xc_ge_f (X := 6) (Y := u10.toInt) (by decide) rfl (by omega)) ?_
        refine xi_iload_n (pc' := 24) (x := x2) kc_58_23 rfl rfl ?_
        refine xi_iload_n (pc' := 25) (x := 729) kc_58_24 rfl rfl ?_
        refine xi_aload_n (pc' := 26) (x := 115) kc_58_25 rfl rfl ?_
        refine xi_getfield (pc' := 29) (v := .ref 154) kc_58_26 rfl rfl rfl A14 rfl ?_
        refine xi_iload_n (pc' := 30) (x := 6) kc_58_29 rfl rfl ?_
        obtain ⟨y16, A16, hy16, ry16⟩ := xk_arr K.1 xD_154
        obtain ⟨v17, ev17, bv17, dv17⟩ := xj_get hy16 ry16 (i := 6) (by decide) (by decide)
        refine xi_iaload (pc' := 31) (v := v17) kc_58_30 rfl A16 (by decide) rfl (xi_in (by decide) (by rw [hy16]; decide)) ev17 ?_
        obtain ⟨v18, ev18⟩ : ∃ q : Int32, 729 * v17 = q := ⟨_, rfl⟩
        have zv18 : v18.toInt = (729) * v17.toInt := by rw [← ev18]; exact (xz_mul (X := 729) (Y := v17.toInt) (by decide) rfl (by omega) (by omega)).trans (by omega)
        refine xi_imul (pc' := 32) (v := v18) kc_58_31 rfl ev18 ?_
        obtain ⟨v19, ev19⟩ : ∃ q : Int32, x2 + v18 = q := ⟨_, rfl⟩
        have zv19 : v19.toInt = (x2.toInt + (729) * v17.toInt) := by rw [← ev19]; exact (xz_add (X := x2.toInt) (Y := (729) * v17.toInt) rfl zv18 (by omega) (by omega)).trans (by omega)
        refine xi_iadd (pc' := 33) (v := v19) kc_58_32 rfl ev19 ?_
        refine xi_istore_n (pc' := 34) (lv' := [(2, .int v19), (0, .ref 115), (1, .int 729), (3, .int 6)]) kc_58_33 rfl rfl (xm_lt ml_58 rfl) ?_
        refine xi_iload_n (pc' := 35) (x := 729) kc_58_34 rfl rfl ?_
        refine xi_iconst (pc' := 36) (v := 3) kc_58_35 rfl rfl ?_
        refine xi_imul (pc' := 37) (v := 2187) kc_58_36 rfl rfl ?_
        refine xi_istore_n (pc' := 38) (lv' := [(1, .int 2187), (2, .int v19), (0, .ref 115), (3, .int 6)]) kc_58_37 rfl rfl (xm_lt ml_58 rfl) ?_
        refine xi_iinc (pc' := 41) (x := 6) (v := 7) (lv' := [(3, .int 7), (1, .int 2187), (2, .int v19), (0, .ref 115)]) kc_58_38 rfl rfl rfl rfl (xm_lt ml_58 rfl) ?_
        refine xi_goto (pc' := 15) kc_58_41 rfl ?_
        have zc7 : (7 : Int32).toInt = 7 := by decide
        have zc2187 : (2187 : Int32).toInt = 2187 := by decide
        refine xw_lv (b := [(0, .ref 115), (1, .int 2187), (2, .int v19), (3, .int 7)]) (lvS_cons (lvS_cons (lvS_cons (lvS_cons (lvS_nil (show ([3, 1, 2, 0] : List Nat).Nodup by decide)) rfl) rfl) rfl) rfl) ?_
        exact i7 v19 h (by omega) K (by omega)
    · intro x2 h b2 K hm
      refine xi_iload_n (pc' := 16) (x := 7) kc_58_15 rfl rfl ?_
      refine xi_aload_n (pc' := 17) (x := 115) kc_58_16 rfl rfl ?_
      obtain ⟨u1, u2, u3, u4, u5, u6, u7, u8, u9, u10, u11, u12, u13, bu1, bu2, bu3, bu4, bu5, bu6, bu7, bu8, bu9, bu10, bu11, bu12, bu13, A14⟩ := xq_115 K.1
      refine xi_getfield (pc' := 20) (v := .int u10) kc_58_17 rfl rfl rfl A14 rfl ?_
      by_cases c15 : u10.toInt ≤ 7
      · refine xi_cmt (pc' := 44) kc_58_20 rfl (xc_ge_t (X := 7) (Y := u10.toInt) (by decide) rfl (by omega)) ?_
        refine xi_iload_n (pc' := 45) (x := 2187) kc_58_44 rfl rfl ?_
        refine xi_iconst (pc' := 46) (v := 1) kc_58_45 rfl rfl ?_
        refine xi_isub (pc' := 47) (v := 2186) kc_58_46 rfl rfl ?_
        refine xi_istore_n (pc' := 48) (lv' := [(3, .int 2186), (0, .ref 115), (1, .int 2187), (2, .int x2)]) kc_58_47 rfl rfl (xm_lt ml_58 rfl) ?_
        have zc2186 : (2186 : Int32).toInt = 2186 := by decide
        refine xw_lv (b := [(0, .ref 115), (2, .int x2), (3, .int 2186)]) (lvS_cons (lvS_cons (lvS_cons (lvS_nil (show ([3, 0, 1, 2] : List Nat).Nodup by decide)) rfl) rfl) rfl) ?_
        exact i9 x2 2186 h (by omega) (by omega) K (by omega)
      · refine xi_cmf (pc' := 23) kc_58_20 rfl (xc_ge_f (X := 7) (Y := u10.toInt) (by decide) rfl (by omega)) ?_
        refine xi_iload_n (pc' := 24) (x := x2) kc_58_23 rfl rfl ?_
        refine xi_iload_n (pc' := 25) (x := 2187) kc_58_24 rfl rfl ?_
        refine xi_aload_n (pc' := 26) (x := 115) kc_58_25 rfl rfl ?_
        refine xi_getfield (pc' := 29) (v := .ref 154) kc_58_26 rfl rfl rfl A14 rfl ?_
        refine xi_iload_n (pc' := 30) (x := 7) kc_58_29 rfl rfl ?_
        obtain ⟨y16, A16, hy16, ry16⟩ := xk_arr K.1 xD_154
        obtain ⟨v17, ev17, bv17, dv17⟩ := xj_get hy16 ry16 (i := 7) (by decide) (by decide)
        refine xi_iaload (pc' := 31) (v := v17) kc_58_30 rfl A16 (by decide) rfl (xi_in (by decide) (by rw [hy16]; decide)) ev17 ?_
        obtain ⟨v18, ev18⟩ : ∃ q : Int32, 2187 * v17 = q := ⟨_, rfl⟩
        have zv18 : v18.toInt = (2187) * v17.toInt := by rw [← ev18]; exact (xz_mul (X := 2187) (Y := v17.toInt) (by decide) rfl (by omega) (by omega)).trans (by omega)
        refine xi_imul (pc' := 32) (v := v18) kc_58_31 rfl ev18 ?_
        obtain ⟨v19, ev19⟩ : ∃ q : Int32, x2 + v18 = q := ⟨_, rfl⟩
        have zv19 : v19.toInt = (x2.toInt + (2187) * v17.toInt) := by rw [← ev19]; exact (xz_add (X := x2.toInt) (Y := (2187) * v17.toInt) rfl zv18 (by omega) (by omega)).trans (by omega)
        refine xi_iadd (pc' := 33) (v := v19) kc_58_32 rfl ev19 ?_
        refine xi_istore_n (pc' := 34) (lv' := [(2, .int v19), (0, .ref 115), (1, .int 2187), (3, .int 7)]) kc_58_33 rfl rfl (xm_lt ml_58 rfl) ?_
        refine xi_iload_n (pc' := 35) (x := 2187) kc_58_34 rfl rfl ?_
        refine xi_iconst (pc' := 36) (v := 3) kc_58_35 rfl rfl ?_
        refine xi_imul (pc' := 37) (v := 6561) kc_58_36 rfl rfl ?_
        refine xi_istore_n (pc' := 38) (lv' := [(1, .int 6561), (2, .int v19), (0, .ref 115), (3, .int 7)]) kc_58_37 rfl rfl (xm_lt ml_58 rfl) ?_
        refine xi_iinc (pc' := 41) (x := 7) (v := 8) (lv' := [(3, .int 8), (1, .int 6561), (2, .int v19), (0, .ref 115)]) kc_58_38 rfl rfl rfl rfl (xm_lt ml_58 rfl) ?_
        refine xi_goto (pc' := 15) kc_58_41 rfl ?_
        have zc8 : (8 : Int32).toInt = 8 := by decide
        have zc6561 : (6561 : Int32).toInt = 6561 := by decide
        refine xw_lv (b := [(0, .ref 115), (1, .int 6561), (2, .int v19), (3, .int 8)]) (lvS_cons (lvS_cons (lvS_cons (lvS_cons (lvS_nil (show ([3, 1, 2, 0] : List Nat).Nodup by decide)) rfl) rfl) rfl) rfl) ?_
        exact i8 v19 h (by omega) K (by omega)
    · intro x2 h b2 K hm
      refine xi_iload_n (pc' := 16) (x := 8) kc_58_15 rfl rfl ?_
      refine xi_aload_n (pc' := 17) (x := 115) kc_58_16 rfl rfl ?_
      obtain ⟨u1, u2, u3, u4, u5, u6, u7, u8, u9, u10, u11, u12, u13, bu1, bu2, bu3, bu4, bu5, bu6, bu7, bu8, bu9, bu10, bu11, bu12, bu13, A14⟩ := xq_115 K.1
      refine xi_getfield (pc' := 20) (v := .int u10) kc_58_17 rfl rfl rfl A14 rfl ?_
      refine xi_cmt (pc' := 44) kc_58_20 rfl (xc_ge_t (X := 8) (Y := u10.toInt) (by decide) rfl (by omega)) ?_
      refine xi_iload_n (pc' := 45) (x := 6561) kc_58_44 rfl rfl ?_
      refine xi_iconst (pc' := 46) (v := 1) kc_58_45 rfl rfl ?_
      refine xi_isub (pc' := 47) (v := 6560) kc_58_46 rfl rfl ?_
      refine xi_istore_n (pc' := 48) (lv' := [(3, .int 6560), (0, .ref 115), (1, .int 6561), (2, .int x2)]) kc_58_47 rfl rfl (xm_lt ml_58 rfl) ?_
      have zc6560 : (6560 : Int32).toInt = 6560 := by decide
      refine xw_lv (b := [(0, .ref 115), (2, .int x2), (3, .int 6560)]) (lvS_cons (lvS_cons (lvS_cons (lvS_nil (show ([3, 0, 1, 2] : List Nat).Nodup by decide)) rfl) rfl) rfl) ?_
      exact i9 x2 6560 h (by omega) (by omega) K (by omega)
    · intro x2 x3 h b2 b3 K hm
      refine xi_iload_n (pc' := 49) (x := x3) kc_58_48 rfl rfl ?_
      refine xi_iload_n (pc' := 50) (x := x2) kc_58_49 rfl rfl ?_
      by_cases c1 : x3.toInt < x2.toInt
      · refine xi_cmt (pc' := 194) kc_58_50 rfl (xc_lt_t (X := x3.toInt) (Y := x2.toInt) rfl rfl (by omega)) ?_
        refine xi_aload_n (pc' := 195) (x := 115) kc_58_194 rfl rfl ?_
        obtain ⟨u2, u3, u4, u5, u6, u7, u8, u9, u10, u11, u12, u13, u14, bu2, bu3, bu4, bu5, bu6, bu7, bu8, bu9, bu10, bu11, bu12, bu13, bu14, A15⟩ := xq_115 K.1
        refine xi_getfield (pc' := 198) (v := .ref 155) kc_58_195 rfl rfl rfl A15 rfl ?_
        refine xi_iload_n (pc' := 199) (x := x2) kc_58_198 rfl rfl ?_
        obtain ⟨y16, A16, hy16, ry16⟩ := xk_arr K.1 xD_155
        obtain ⟨v17, ev17, bv17, dv17⟩ := xj_get hy16 ry16 (i := x2) (by omega) (by omega)
        refine xi_iaload (pc' := 200) (v := v17) kc_58_199 rfl A16 (by decide) rfl (xi_in (by omega) (by rw [hy16]; omega)) ev17 ?_
        refine xi_ireturn kc_58_200 mr_58 rfl ?_
        exact kk v17 h K
      · refine xi_cmf (pc' := 53) kc_58_50 rfl (xc_lt_f (X := x3.toInt) (Y := x2.toInt) rfl rfl (by omega)) ?_
        refine xi_iconst (pc' := 54) (v := (-1)) kc_58_53 rfl rfl ?_
        refine xi_istore (pc' := 56) (lv' := [(4, .int (-1)), (0, .ref 115), (2, .int x2), (3, .int x3)]) kc_58_54 rfl rfl (xm_lt ml_58 rfl) ?_
        refine xi_iconst (pc' := 57) (v := 1) kc_58_56 rfl rfl ?_
        refine xi_istore (pc' := 59) (lv' := [(5, .int 1), (4, .int (-1)), (0, .ref 115), (2, .int x2), (3, .int x3)]) kc_58_57 rfl rfl (xm_lt ml_58 rfl) ?_
        refine xi_iconst (pc' := 60) (v := 0) kc_58_59 rfl rfl ?_
        refine xi_istore (pc' := 62) (lv' := [(6, .int 0), (5, .int 1), (4, .int (-1)), (0, .ref 115), (2, .int x2), (3, .int x3)]) kc_58_60 rfl rfl (xm_lt ml_58 rfl) ?_
        have zcm1 : ((-1) : Int32).toInt = (-1) := by decide
        have zc0 : (0 : Int32).toInt = 0 := by decide
        have zc1 : (1 : Int32).toInt = 1 := by decide
        refine xw_lv (b := [(0, .ref 115), (2, .int x2), (3, .int x3), (4, .int (-1)), (5, .int 1), (6, .int 0)]) (lvS_cons (lvS_cons (lvS_cons (lvS_cons (lvS_cons (lvS_cons (lvS_nil (show ([6, 5, 4, 0, 2, 3] : List Nat).Nodup by decide)) rfl) rfl) rfl) rfl) rfl) rfl) ?_
        exact i10 x2 x3 (-1) h (by omega) (by omega) (by omega) K (by omega)
    · intro x2 x3 x4 h b2 b3 b4 K hm
      refine xi_iload (pc' := 64) (x := 0) kc_58_62 rfl rfl ?_
      refine xi_aload_n (pc' := 65) (x := 115) kc_58_64 rfl rfl ?_
      obtain ⟨u1, u2, u3, u4, u5, u6, u7, u8, u9, u10, u11, u12, u13, bu1, bu2, bu3, bu4, bu5, bu6, bu7, bu8, bu9, bu10, bu11, bu12, bu13, A14⟩ := xq_115 K.1
      refine xi_getfield (pc' := 68) (v := .int u10) kc_58_65 rfl rfl rfl A14 rfl ?_
      by_cases c15 : u10.toInt ≤ 0
      · refine xi_cmt (pc' := 171) kc_58_68 rfl (xc_ge_t (X := 0) (Y := u10.toInt) (by decide) rfl (by omega)) ?_
        refine xi_aload_n (pc' := 172) (x := 115) kc_58_171 rfl rfl ?_
        refine xi_getfield (pc' := 175) (v := .ref 155) kc_58_172 rfl rfl rfl A14 rfl ?_
        refine xi_iload_n (pc' := 176) (x := x3) kc_58_175 rfl rfl ?_
        refine xi_iload (pc' := 178) (x := x4) kc_58_176 rfl rfl ?_
        refine xi_iff (pc' := 181) kc_58_178 rfl (xc_ge_f (X := x4.toInt) (Y := 0) rfl (by decide) (by omega)) ?_
        refine xi_iconst (pc' := 182) (v := 0) kc_58_181 rfl rfl ?_
        refine xi_goto (pc' := 187) kc_58_182 rfl ?_
        obtain ⟨y16, A16, hy16, ry16⟩ := xk_arr K.1 xD_155
        obtain ⟨y17, s17, hy17, ry17⟩ := xj_set (v := 0) hy16 ry16 x3 (by first | omega | decide) (by first | omega | decide)
        refine xi_iastore (pc' := 188) (x' := y17) kc_58_187 rfl A16 rfl (xi_in (by omega) (by rw [hy16]; omega)) s17 (fun hh17 eh17 => ?_)
        have K18 := xk_pa K (xk_wa (by decide +kernel)) xD_155 hy17 ry17 eh17
        obtain ⟨v19, ev19⟩ : ∃ q : Int32, x3 + (-1) = q := ⟨_, rfl⟩
        have zv19 : v19.toInt = (x3.toInt + (-1)) := by rw [← ev19]; exact (xz_add (X := x3.toInt) (Y := (-1)) rfl (by decide) (by omega) (by omega)).trans (by omega)
        refine xi_iinc (pc' := 191) (x := x3) (v := v19) (lv' := [(3, .int v19), (0, .ref 115), (2, .int x2), (4, .int x4), (5, .int 1), (6, .int 0)]) kc_58_188 rfl rfl ev19 rfl (xm_lt ml_58 rfl) ?_
        refine xi_goto (pc' := 48) kc_58_191 rfl ?_
        refine xw_lv (b := [(0, .ref 115), (2, .int x2), (3, .int v19)]) (lvS_cons (lvS_cons (lvS_cons (lvS_nil (show ([3, 0, 2, 4, 5, 6] : List Nat).Nodup by decide)) rfl) rfl) rfl) ?_
        exact i9 x2 v19 hh17 (by omega) (by omega) K18 (by omega)
      · refine xi_cmf (pc' := 71) kc_58_68 rfl (xc_ge_f (X := 0) (Y := u10.toInt) (by decide) rfl (by omega)) ?_
        refine xi_iload_n (pc' := 72) (x := x3) kc_58_71 rfl rfl ?_
        refine xi_iload (pc' := 74) (x := 1) kc_58_72 rfl rfl ?_
        obtain ⟨v20, ev20⟩ : ∃ q : Int32, x3 / 1 = q := ⟨_, rfl⟩
        have dv20 : v20.toInt = x3.toInt / 1 := by rw [← ev20]; exact xz_dive (X := x3.toInt) (Y := 1) rfl (by decide) (by omega) (by decide)
        have bv20 : 0 ≤ v20.toInt ∧ v20.toInt ≤ 6560 := by omega
        refine xi_idiv (pc' := 75) (v := v20) kc_58_74 rfl ev20 (by decide) ?_
        refine xi_iconst (pc' := 76) (v := 3) kc_58_75 rfl rfl ?_
        obtain ⟨v21, ev21⟩ : ∃ q : Int32, v20 - v20 / 3 * 3 = q := ⟨_, rfl⟩
        have dv21 : v21.toInt = v20.toInt % 3 := by rw [← ev21]; exact xz_reme (X := v20.toInt) (Y := 3) rfl (by decide) (by omega) (by decide)
        have bv21 : 0 ≤ v21.toInt ∧ v21.toInt ≤ 2 := by omega
        refine xi_irem (pc' := 77) (v := v21) kc_58_76 rfl ev21 (by decide) ?_
        by_cases c22 : v21.toInt = 0
        · refine xi_iff (pc' := 80) kc_58_77 rfl (xc_ne_f (X := v21.toInt) (Y := 0) rfl (by decide) (by omega)) ?_
          refine xi_aload_n (pc' := 81) (x := 115) kc_58_80 rfl rfl ?_
          refine xi_iload_n (pc' := 82) (x := x3) kc_58_81 rfl rfl ?_
          refine xi_iload (pc' := 84) (x := 0) kc_58_82 rfl rfl ?_
          refine xi_virtual (mj := 59) (as := [.int x3, .int 0]) (st1 := []) (lv0 := [(0, .ref 115), (1, .int x3), (2, .int 0)]) kc_58_84 rfl rfl rfl rfl rfl A14 (Nat.le_of_ble_eq_true rfl) (hJ _ _ _ _ (by decide)) (xm_le ml_59 rfl) rfl ?_
          have zc0 : (0 : Int32).toInt = 0 := by decide
          refine mt_59_0 hJ hov1 hov2 (d := d + 3) (x1 := x3) (x2 := 0) K.1 (by first | omega | decide) (by first | omega | decide) (fun r23 hh24 br23 K25 => ?_)
          have K26 := xk_tr K K25 (xsb_ok _ _ (by decide +kernel))
          obtain ⟨u27, u28, u29, u30, u31, u32, u33, u34, u35, u36, u37, u38, u39, bu27, bu28, bu29, bu30, bu31, bu32, bu33, bu34, bu35, bu36, bu37, bu38, bu39, A40⟩ := xq_115 K26.1
          have e41 : u2 = u28 := xk_eqi (q := 1) K25 (by decide +kernel) A14 A40 rfl rfl
          subst e41
          have e42 : u5 = u31 := xk_eqi (q := 23) K25 (by decide +kernel) A14 A40 rfl rfl
          subst e42
          have e43 : u8 = u34 := xk_eqi (q := 34) K25 (by decide +kernel) A14 A40 rfl rfl
          subst e43
          have e44 : u6 = u32 := xk_eqi (q := 32) K25 (by decide +kernel) A14 A40 rfl rfl
          subst e44
          show xw J ov (d + 7) 58 (87, [(0, .ref 115), (2, .int x2), (3, .int x3), (4, .int x4), (5, .int 1), (6, .int 0)], [.int r23], hh24) _
          by_cases c45 : r23.toInt = 0
          · refine xi_ift (pc' := 159) kc_58_87 rfl (xc_eq_t (X := r23.toInt) (Y := 0) rfl (by decide) (by omega)) ?_
            refine xi_iload (pc' := 161) (x := 1) kc_58_159 rfl rfl ?_
            refine xi_iconst (pc' := 162) (v := 3) kc_58_161 rfl rfl ?_
            refine xi_imul (pc' := 163) (v := 3) kc_58_162 rfl rfl ?_
            refine xi_istore (pc' := 165) (lv' := [(5, .int 3), (0, .ref 115), (2, .int x2), (3, .int x3), (4, .int x4), (6, .int 0)]) kc_58_163 rfl rfl (xm_lt ml_58 rfl) ?_
            refine xi_iinc (pc' := 168) (x := 0) (v := 1) (lv' := [(6, .int 1), (5, .int 3), (0, .ref 115), (2, .int x2), (3, .int x3), (4, .int x4)]) kc_58_165 rfl rfl rfl rfl (xm_lt ml_58 rfl) ?_
            refine xi_goto (pc' := 62) kc_58_168 rfl ?_
            have zc1 : (1 : Int32).toInt = 1 := by decide
            have zc3 : (3 : Int32).toInt = 3 := by decide
            refine xw_lv (b := [(0, .ref 115), (2, .int x2), (3, .int x3), (4, .int x4), (5, .int 3), (6, .int 1)]) (lvS_cons (lvS_cons (lvS_cons (lvS_cons (lvS_cons (lvS_cons (lvS_nil (show ([6, 5, 0, 2, 3, 4] : List Nat).Nodup by decide)) rfl) rfl) rfl) rfl) rfl) rfl) ?_
            exact i11 x2 x3 x4 hh24 (by omega) (by omega) K26 (by omega)
          · refine xi_iff (pc' := 90) kc_58_87 rfl (xc_eq_f (X := r23.toInt) (Y := 0) rfl (by decide) (by omega)) ?_
            refine xi_aload_n (pc' := 91) (x := 115) kc_58_90 rfl rfl ?_
            refine xi_getfield (pc' := 94) (v := .ref 155) kc_58_91 rfl rfl rfl A40 rfl ?_
            refine xi_iload_n (pc' := 95) (x := x3) kc_58_94 rfl rfl ?_
            refine xi_iload (pc' := 97) (x := 1) kc_58_95 rfl rfl ?_
            obtain ⟨v46, ev46⟩ : ∃ q : Int32, x3 + 1 = q := ⟨_, rfl⟩
            have zv46 : v46.toInt = (x3.toInt + 1) := by rw [← ev46]; exact (xz_add (X := x3.toInt) (Y := 1) rfl (by decide) (by omega) (by omega)).trans (by omega)
            refine xi_iadd (pc' := 98) (v := v46) kc_58_97 rfl ev46 ?_
            have t47 : (-1) ≤ x3.toInt ∧ x3.toInt ≤ 6559 := by omega
            obtain ⟨y48, A48, hy48, ry48⟩ := xk_arr K26.1 xD_155
            obtain ⟨v49, ev49, bv49, dv49⟩ := xj_get hy48 ry48 (i := v46) (by rw [zv46]; omega) (by rw [zv46]; omega)
            refine xi_iaload (pc' := 99) (v := v49) kc_58_98 rfl A48 (by decide) rfl (xi_in (by rw [zv46]; omega) (by rw [hy48]; rw [zv46]; omega)) ev49 ?_
            refine xi_istore (pc' := 101) (lv' := [(7, .int v49), (0, .ref 115), (2, .int x2), (3, .int x3), (4, .int x4), (5, .int 1), (6, .int 0)]) kc_58_99 rfl rfl (xm_lt ml_58 rfl) ?_
            refine xi_aload_n (pc' := 102) (x := 115) kc_58_101 rfl rfl ?_
            refine xi_getfield (pc' := 105) (v := .ref 155) kc_58_102 rfl rfl rfl A40 rfl ?_
            refine xi_iload_n (pc' := 106) (x := x3) kc_58_105 rfl rfl ?_
            refine xi_iconst (pc' := 107) (v := 2) kc_58_106 rfl rfl ?_
            refine xi_iload (pc' := 109) (x := 1) kc_58_107 rfl rfl ?_
            refine xi_imul (pc' := 110) (v := 2) kc_58_109 rfl rfl ?_
            obtain ⟨v50, ev50⟩ : ∃ q : Int32, x3 + 2 = q := ⟨_, rfl⟩
            have zv50 : v50.toInt = (x3.toInt + 2) := by rw [← ev50]; exact (xz_add (X := x3.toInt) (Y := 2) rfl (by decide) (by omega) (by omega)).trans (by omega)
            refine xi_iadd (pc' := 111) (v := v50) kc_58_110 rfl ev50 ?_
            have t51 : (-2) ≤ x3.toInt ∧ x3.toInt ≤ 6558 := by omega
            obtain ⟨v52, ev52, bv52, dv52⟩ := xj_get hy48 ry48 (i := v50) (by rw [zv50]; omega) (by rw [zv50]; omega)
            refine xi_iaload (pc' := 112) (v := v52) kc_58_111 rfl A48 (by decide) rfl (xi_in (by rw [zv50]; omega) (by rw [hy48]; rw [zv50]; omega)) ev52 ?_
            refine xi_istore (pc' := 114) (lv' := [(8, .int v52), (7, .int v49), (0, .ref 115), (2, .int x2), (3, .int x3), (4, .int x4), (5, .int 1), (6, .int 0)]) kc_58_112 rfl rfl (xm_lt ml_58 rfl) ?_
            refine xi_aload_n (pc' := 115) (x := 115) kc_58_114 rfl rfl ?_
            refine xi_getfield (pc' := 118) (v := .ref 153) kc_58_115 rfl rfl rfl A40 rfl ?_
            refine xi_iload (pc' := 120) (x := 0) kc_58_118 rfl rfl ?_
            obtain ⟨y53, A53, hy53, ry53⟩ := xk_arr K26.1 xD_153
            obtain ⟨v54, ev54, bv54, dv54⟩ := xj_get hy53 ry53 (i := 0) (by decide) (by decide)
            refine xi_iaload (pc' := 121) (v := v54) kc_58_120 rfl A53 (by decide) rfl (xi_in (by decide) (by rw [hy53]; decide)) ev54 ?_
            refine xi_iload (pc' := 123) (x := v49) kc_58_121 rfl rfl ?_
            refine xi_iload (pc' := 125) (x := v52) kc_58_123 rfl rfl ?_
            by_cases c55 : v49.toInt ≤ v52.toInt
            · refine xi_cmt (pc' := 133) kc_58_125 rfl (xc_le_t (X := v49.toInt) (Y := v52.toInt) rfl rfl (by omega)) ?_
              refine xi_iload (pc' := 135) (x := v52) kc_58_133 rfl rfl ?_
              obtain ⟨v56, ev56⟩ : ∃ q : Int32, (v54 : Int32) + v52 = q := ⟨_, rfl⟩
              have rv56 := xc_rng v56
              refine xi_iadd (pc' := 136) (v := v56) kc_58_135 rfl ev56 ?_
              refine xi_istore (pc' := 138) (lv' := [(9, .int v56), (8, .int v52), (7, .int v49), (0, .ref 115), (2, .int x2), (3, .int x3), (4, .int x4), (5, .int 1), (6, .int 0)]) kc_58_136 rfl rfl (xm_lt ml_58 rfl) ?_
              refine xi_iload (pc' := 140) (x := x4) kc_58_138 rfl rfl ?_
              refine xi_ift (pc' := 150) kc_58_140 rfl (xc_lt_t (X := x4.toInt) (Y := 0) rfl (by decide) (by omega)) ?_
              refine xi_iload (pc' := 152) (x := v56) kc_58_150 rfl rfl ?_
              refine xi_goto (pc' := 157) kc_58_152 rfl ?_
              refine xi_istore (pc' := 159) (lv' := [(4, .int v56), (9, .int v56), (8, .int v52), (7, .int v49), (0, .ref 115), (2, .int x2), (3, .int x3), (5, .int 1), (6, .int 0)]) kc_58_157 rfl rfl (xm_lt ml_58 rfl) ?_
              refine xi_iload (pc' := 161) (x := 1) kc_58_159 rfl rfl ?_
              refine xi_iconst (pc' := 162) (v := 3) kc_58_161 rfl rfl ?_
              refine xi_imul (pc' := 163) (v := 3) kc_58_162 rfl rfl ?_
              refine xi_istore (pc' := 165) (lv' := [(5, .int 3), (4, .int v56), (9, .int v56), (8, .int v52), (7, .int v49), (0, .ref 115), (2, .int x2), (3, .int x3), (6, .int 0)]) kc_58_163 rfl rfl (xm_lt ml_58 rfl) ?_
              refine xi_iinc (pc' := 168) (x := 0) (v := 1) (lv' := [(6, .int 1), (5, .int 3), (4, .int v56), (9, .int v56), (8, .int v52), (7, .int v49), (0, .ref 115), (2, .int x2), (3, .int x3)]) kc_58_165 rfl rfl rfl rfl (xm_lt ml_58 rfl) ?_
              refine xi_goto (pc' := 62) kc_58_168 rfl ?_
              have zc1 : (1 : Int32).toInt = 1 := by decide
              have zc3 : (3 : Int32).toInt = 3 := by decide
              refine xw_lv (b := [(0, .ref 115), (2, .int x2), (3, .int x3), (4, .int v56), (5, .int 3), (6, .int 1)]) (lvS_cons (lvS_cons (lvS_cons (lvS_cons (lvS_cons (lvS_cons (lvS_nil (show ([6, 5, 4, 9, 8, 7, 0, 2, 3] : List Nat).Nodup by decide)) rfl) rfl) rfl) rfl) rfl) rfl) ?_
              exact i11 x2 x3 v56 hh24 (by omega) (by omega) K26 (by omega)
            · refine xi_cmf (pc' := 128) kc_58_125 rfl (xc_le_f (X := v49.toInt) (Y := v52.toInt) rfl rfl (by omega)) ?_
              refine xi_iload (pc' := 130) (x := v49) kc_58_128 rfl rfl ?_
              refine xi_goto (pc' := 135) kc_58_130 rfl ?_
              obtain ⟨v57, ev57⟩ : ∃ q : Int32, (v54 : Int32) + v49 = q := ⟨_, rfl⟩
              have rv57 := xc_rng v57
              refine xi_iadd (pc' := 136) (v := v57) kc_58_135 rfl ev57 ?_
              refine xi_istore (pc' := 138) (lv' := [(9, .int v57), (8, .int v52), (7, .int v49), (0, .ref 115), (2, .int x2), (3, .int x3), (4, .int x4), (5, .int 1), (6, .int 0)]) kc_58_136 rfl rfl (xm_lt ml_58 rfl) ?_
              refine xi_iload (pc' := 140) (x := x4) kc_58_138 rfl rfl ?_
              refine xi_ift (pc' := 150) kc_58_140 rfl (xc_lt_t (X := x4.toInt) (Y := 0) rfl (by decide) (by omega)) ?_
              refine xi_iload (pc' := 152) (x := v57) kc_58_150 rfl rfl ?_
              refine xi_goto (pc' := 157) kc_58_152 rfl ?_
              refine xi_istore (pc' := 159) (lv' := [(4, .int v57), (9, .int v57), (8, .int v52), (7, .int v49), (0, .ref 115), (2, .int x2), (3, .int x3), (5, .int 1), (6, .int 0)]) kc_58_157 rfl rfl (xm_lt ml_58 rfl) ?_
              refine xi_iload (pc' := 161) (x := 1) kc_58_159 rfl rfl ?_
              refine xi_iconst (pc' := 162) (v := 3) kc_58_161 rfl rfl ?_
              refine xi_imul (pc' := 163) (v := 3) kc_58_162 rfl rfl ?_
              refine xi_istore (pc' := 165) (lv' := [(5, .int 3), (4, .int v57), (9, .int v57), (8, .int v52), (7, .int v49), (0, .ref 115), (2, .int x2), (3, .int x3), (6, .int 0)]) kc_58_163 rfl rfl (xm_lt ml_58 rfl) ?_
              refine xi_iinc (pc' := 168) (x := 0) (v := 1) (lv' := [(6, .int 1), (5, .int 3), (4, .int v57), (9, .int v57), (8, .int v52), (7, .int v49), (0, .ref 115), (2, .int x2), (3, .int x3)]) kc_58_165 rfl rfl rfl rfl (xm_lt ml_58 rfl) ?_
              refine xi_goto (pc' := 62) kc_58_168 rfl ?_
              have zc1 : (1 : Int32).toInt = 1 := by decide
              have zc3 : (3 : Int32).toInt = 3 := by decide
              refine xw_lv (b := [(0, .ref 115), (2, .int x2), (3, .int x3), (4, .int v57), (5, .int 3), (6, .int 1)]) (lvS_cons (lvS_cons (lvS_cons (lvS_cons (lvS_cons (lvS_cons (lvS_nil (show ([6, 5, 4, 9, 8, 7, 0, 2, 3] : List Nat).Nodup by decide)) rfl) rfl) rfl) rfl) rfl) rfl) ?_
              exact i11 x2 x3 v57 hh24 (by omega) (by omega) K26 (by omega)
        · refine xi_ift (pc' := 159) kc_58_77 rfl (xc_ne_t (X := v21.toInt) (Y := 0) rfl (by decide) (by omega)) ?_
          refine xi_iload (pc' := 161) (x := 1) kc_58_159 rfl rfl ?_
          refine xi_iconst (pc' := 162) (v := 3) kc_58_161 rfl rfl ?_
          refine xi_imul (pc' := 163) (v := 3) kc_58_162 rfl rfl ?_
          refine xi_istore (pc' := 165) (lv' := [(5, .int 3), (0, .ref 115), (2, .int x2), (3, .int x3), (4, .int x4), (6, .int 0)]) kc_58_163 rfl rfl (xm_lt ml_58 rfl) ?_
          refine xi_iinc (pc' := 168) (x := 0) (v := 1) (lv' := [(6, .int 1), (5, .int 3), (0, .ref 115), (2, .int x2), (3, .int x3), (4, .int x4)]) kc_58_165 rfl rfl rfl rfl (xm_lt ml_58 rfl) ?_
          refine xi_goto (pc' := 62) kc_58_168 rfl ?_
          have zc1 : (1 : Int32).toInt = 1 := by decide
          have zc3 : (3 : Int32).toInt = 3 := by decide
          refine xw_lv (b := [(0, .ref 115), (2, .int x2), (3, .int x3), (4, .int x4), (5, .int 3), (6, .int 1)]) (lvS_cons (lvS_cons (lvS_cons (lvS_cons (lvS_cons (lvS_cons (lvS_nil (show ([6, 5, 0, 2, 3, 4] : List Nat).Nodup by decide)) rfl) rfl) rfl) rfl) rfl) rfl) ?_
          exact i11 x2 x3 x4 h (by omega) (by omega) K (by omega)
    · intro x2 x3 x4 h b2 b3 K hm
      have rx4 := xc_rng x4
      refine xi_iload (pc' := 64) (x := 1) kc_58_62 rfl rfl ?_
      refine xi_aload_n (pc' := 65) (x := 115) kc_58_64 rfl rfl ?_
      obtain ⟨u1, u2, u3, u4, u5, u6, u7, u8, u9, u10, u11, u12, u13, bu1, bu2, bu3, bu4, bu5, bu6, bu7, bu8, bu9, bu10, bu11, bu12, bu13, A14⟩ := xq_115 K.1
      refine xi_getfield (pc' := 68) (v := .int u10) kc_58_65 rfl rfl rfl A14 rfl ?_
      by_cases c15 : u10.toInt ≤ 1
      · refine xi_cmt (pc' := 171) kc_58_68 rfl (xc_ge_t (X := 1) (Y := u10.toInt) (by decide) rfl (by omega)) ?_
        refine xi_aload_n (pc' := 172) (x := 115) kc_58_171 rfl rfl ?_
        refine xi_getfield (pc' := 175) (v := .ref 155) kc_58_172 rfl rfl rfl A14 rfl ?_
        refine xi_iload_n (pc' := 176) (x := x3) kc_58_175 rfl rfl ?_
        refine xi_iload (pc' := 178) (x := x4) kc_58_176 rfl rfl ?_
        by_cases c16 : 0 ≤ x4.toInt
        · refine xi_ift (pc' := 185) kc_58_178 rfl (xc_ge_t (X := x4.toInt) (Y := 0) rfl (by decide) (by omega)) ?_
          refine xi_iload (pc' := 187) (x := x4) kc_58_185 rfl rfl ?_
          obtain ⟨y17, A17, hy17, ry17⟩ := xk_arr K.1 xD_155
          obtain ⟨y18, s18, hy18, ry18⟩ := xj_set (v := x4) hy17 ry17 x3 (by first | omega | decide) (by first | omega | decide)
          refine xi_iastore (pc' := 188) (x' := y18) kc_58_187 rfl A17 rfl (xi_in (by omega) (by rw [hy17]; omega)) s18 (fun hh18 eh18 => ?_)
          have K19 := xk_pa K (xk_wa (by decide +kernel)) xD_155 hy18 ry18 eh18
          obtain ⟨v20, ev20⟩ : ∃ q : Int32, x3 + (-1) = q := ⟨_, rfl⟩
          have zv20 : v20.toInt = (x3.toInt + (-1)) := by rw [← ev20]; exact (xz_add (X := x3.toInt) (Y := (-1)) rfl (by decide) (by omega) (by omega)).trans (by omega)
          refine xi_iinc (pc' := 191) (x := x3) (v := v20) (lv' := [(3, .int v20), (0, .ref 115), (2, .int x2), (4, .int x4), (5, .int 3), (6, .int 1)]) kc_58_188 rfl rfl ev20 rfl (xm_lt ml_58 rfl) ?_
          refine xi_goto (pc' := 48) kc_58_191 rfl ?_
          refine xw_lv (b := [(0, .ref 115), (2, .int x2), (3, .int v20)]) (lvS_cons (lvS_cons (lvS_cons (lvS_nil (show ([3, 0, 2, 4, 5, 6] : List Nat).Nodup by decide)) rfl) rfl) rfl) ?_
          exact i9 x2 v20 hh18 (by omega) (by omega) K19 (by omega)
        · refine xi_iff (pc' := 181) kc_58_178 rfl (xc_ge_f (X := x4.toInt) (Y := 0) rfl (by decide) (by omega)) ?_
          refine xi_iconst (pc' := 182) (v := 0) kc_58_181 rfl rfl ?_
          refine xi_goto (pc' := 187) kc_58_182 rfl ?_
          obtain ⟨y21, A21, hy21, ry21⟩ := xk_arr K.1 xD_155
          obtain ⟨y22, s22, hy22, ry22⟩ := xj_set (v := 0) hy21 ry21 x3 (by first | omega | decide) (by first | omega | decide)
          refine xi_iastore (pc' := 188) (x' := y22) kc_58_187 rfl A21 rfl (xi_in (by omega) (by rw [hy21]; omega)) s22 (fun hh22 eh22 => ?_)
          have K23 := xk_pa K (xk_wa (by decide +kernel)) xD_155 hy22 ry22 eh22
          obtain ⟨v24, ev24⟩ : ∃ q : Int32, x3 + (-1) = q := ⟨_, rfl⟩
          have zv24 : v24.toInt = (x3.toInt + (-1)) := by rw [← ev24]; exact (xz_add (X := x3.toInt) (Y := (-1)) rfl (by decide) (by omega) (by omega)).trans (by omega)
          refine xi_iinc (pc' := 191) (x := x3) (v := v24) (lv' := [(3, .int v24), (0, .ref 115), (2, .int x2), (4, .int x4), (5, .int 3), (6, .int 1)]) kc_58_188 rfl rfl ev24 rfl (xm_lt ml_58 rfl) ?_
          refine xi_goto (pc' := 48) kc_58_191 rfl ?_
          refine xw_lv (b := [(0, .ref 115), (2, .int x2), (3, .int v24)]) (lvS_cons (lvS_cons (lvS_cons (lvS_nil (show ([3, 0, 2, 4, 5, 6] : List Nat).Nodup by decide)) rfl) rfl) rfl) ?_
          exact i9 x2 v24 hh22 (by omega) (by omega) K23 (by omega)
      · refine xi_cmf (pc' := 71) kc_58_68 rfl (xc_ge_f (X := 1) (Y := u10.toInt) (by decide) rfl (by omega)) ?_
        refine xi_iload_n (pc' := 72) (x := x3) kc_58_71 rfl rfl ?_
        refine xi_iload (pc' := 74) (x := 3) kc_58_72 rfl rfl ?_
        obtain ⟨v25, ev25⟩ : ∃ q : Int32, x3 / 3 = q := ⟨_, rfl⟩
        have dv25 : v25.toInt = x3.toInt / 3 := by rw [← ev25]; exact xz_dive (X := x3.toInt) (Y := 3) rfl (by decide) (by omega) (by decide)
        have bv25 : 0 ≤ v25.toInt ∧ v25.toInt ≤ 2186 := by omega
        refine xi_idiv (pc' := 75) (v := v25) kc_58_74 rfl ev25 (by decide) ?_
        refine xi_iconst (pc' := 76) (v := 3) kc_58_75 rfl rfl ?_
        obtain ⟨v26, ev26⟩ : ∃ q : Int32, v25 - v25 / 3 * 3 = q := ⟨_, rfl⟩
        have dv26 : v26.toInt = v25.toInt % 3 := by rw [← ev26]; exact xz_reme (X := v25.toInt) (Y := 3) rfl (by decide) (by omega) (by decide)
        have bv26 : 0 ≤ v26.toInt ∧ v26.toInt ≤ 2 := by omega
        refine xi_irem (pc' := 77) (v := v26) kc_58_76 rfl ev26 (by decide) ?_
        by_cases c27 : v26.toInt = 0
        · refine xi_iff (pc' := 80) kc_58_77 rfl (xc_ne_f (X := v26.toInt) (Y := 0) rfl (by decide) (by omega)) ?_
          refine xi_aload_n (pc' := 81) (x := 115) kc_58_80 rfl rfl ?_
          refine xi_iload_n (pc' := 82) (x := x3) kc_58_81 rfl rfl ?_
          refine xi_iload (pc' := 84) (x := 1) kc_58_82 rfl rfl ?_
          refine xi_virtual (mj := 59) (as := [.int x3, .int 1]) (st1 := []) (lv0 := [(0, .ref 115), (1, .int x3), (2, .int 1)]) kc_58_84 rfl rfl rfl rfl rfl A14 (Nat.le_of_ble_eq_true rfl) (hJ _ _ _ _ (by decide)) (xm_le ml_59 rfl) rfl ?_
          have zc1 : (1 : Int32).toInt = 1 := by decide
          refine mt_59_0 hJ hov1 hov2 (d := d + 3) (x1 := x3) (x2 := 1) K.1 (by first | omega | decide) (by first | omega | decide) (fun r28 hh29 br28 K30 => ?_)
          have K31 := xk_tr K K30 (xsb_ok _ _ (by decide +kernel))
          obtain ⟨u32, u33, u34, u35, u36, u37, u38, u39, u40, u41, u42, u43, u44, bu32, bu33, bu34, bu35, bu36, bu37, bu38, bu39, bu40, bu41, bu42, bu43, bu44, A45⟩ := xq_115 K31.1
          have e46 : u2 = u33 := xk_eqi (q := 1) K30 (by decide +kernel) A14 A45 rfl rfl
          subst e46
          have e47 : u5 = u36 := xk_eqi (q := 23) K30 (by decide +kernel) A14 A45 rfl rfl
          subst e47
          have e48 : u8 = u39 := xk_eqi (q := 34) K30 (by decide +kernel) A14 A45 rfl rfl
          subst e48
          have e49 : u6 = u37 := xk_eqi (q := 32) K30 (by decide +kernel) A14 A45 rfl rfl
          subst e49
          show xw J ov (d + 7) 58 (87, [(0, .ref 115), (2, .int x2), (3, .int x3), (4, .int x4), (5, .int 3), (6, .int 1)], [.int r28], hh29) _
          by_cases c50 : r28.toInt = 0
          · refine xi_ift (pc' := 159) kc_58_87 rfl (xc_eq_t (X := r28.toInt) (Y := 0) rfl (by decide) (by omega)) ?_
            refine xi_iload (pc' := 161) (x := 3) kc_58_159 rfl rfl ?_
            refine xi_iconst (pc' := 162) (v := 3) kc_58_161 rfl rfl ?_
            refine xi_imul (pc' := 163) (v := 9) kc_58_162 rfl rfl ?_
            refine xi_istore (pc' := 165) (lv' := [(5, .int 9), (0, .ref 115), (2, .int x2), (3, .int x3), (4, .int x4), (6, .int 1)]) kc_58_163 rfl rfl (xm_lt ml_58 rfl) ?_
            refine xi_iinc (pc' := 168) (x := 1) (v := 2) (lv' := [(6, .int 2), (5, .int 9), (0, .ref 115), (2, .int x2), (3, .int x3), (4, .int x4)]) kc_58_165 rfl rfl rfl rfl (xm_lt ml_58 rfl) ?_
            refine xi_goto (pc' := 62) kc_58_168 rfl ?_
            have zc2 : (2 : Int32).toInt = 2 := by decide
            have zc9 : (9 : Int32).toInt = 9 := by decide
            refine xw_lv (b := [(0, .ref 115), (2, .int x2), (3, .int x3), (4, .int x4), (5, .int 9), (6, .int 2)]) (lvS_cons (lvS_cons (lvS_cons (lvS_cons (lvS_cons (lvS_cons (lvS_nil (show ([6, 5, 0, 2, 3, 4] : List Nat).Nodup by decide)) rfl) rfl) rfl) rfl) rfl) rfl) ?_
            exact i12 x2 x3 x4 hh29 (by omega) (by omega) K31 (by omega)
          · refine xi_iff (pc' := 90) kc_58_87 rfl (xc_eq_f (X := r28.toInt) (Y := 0) rfl (by decide) (by omega)) ?_
            refine xi_aload_n (pc' := 91) (x := 115) kc_58_90 rfl rfl ?_
            refine xi_getfield (pc' := 94) (v := .ref 155) kc_58_91 rfl rfl rfl A45 rfl ?_
            refine xi_iload_n (pc' := 95) (x := x3) kc_58_94 rfl rfl ?_
            refine xi_iload (pc' := 97) (x := 3) kc_58_95 rfl rfl ?_
            obtain ⟨v51, ev51⟩ : ∃ q : Int32, x3 + 3 = q := ⟨_, rfl⟩
            have zv51 : v51.toInt = (x3.toInt + 3) := by rw [← ev51]; exact (xz_add (X := x3.toInt) (Y := 3) rfl (by decide) (by omega) (by omega)).trans (by omega)
            refine xi_iadd (pc' := 98) (v := v51) kc_58_97 rfl ev51 ?_
            have t52 : (-3) ≤ x3.toInt ∧ x3.toInt ≤ 6557 := by omega
            obtain ⟨y53, A53, hy53, ry53⟩ := xk_arr K31.1 xD_155
            obtain ⟨v54, ev54, bv54, dv54⟩ := xj_get hy53 ry53 (i := v51) (by rw [zv51]; omega) (by rw [zv51]; omega)
            refine xi_iaload (pc' := 99) (v := v54) kc_58_98 rfl A53 (by decide) rfl (xi_in (by rw [zv51]; omega) (by rw [hy53]; rw [zv51]; omega)) ev54 ?_
            refine xi_istore (pc' := 101) (lv' := [(7, .int v54), (0, .ref 115), (2, .int x2), (3, .int x3), (4, .int x4), (5, .int 3), (6, .int 1)]) kc_58_99 rfl rfl (xm_lt ml_58 rfl) ?_
            refine xi_aload_n (pc' := 102) (x := 115) kc_58_101 rfl rfl ?_
            refine xi_getfield (pc' := 105) (v := .ref 155) kc_58_102 rfl rfl rfl A45 rfl ?_
            refine xi_iload_n (pc' := 106) (x := x3) kc_58_105 rfl rfl ?_
            refine xi_iconst (pc' := 107) (v := 2) kc_58_106 rfl rfl ?_
            refine xi_iload (pc' := 109) (x := 3) kc_58_107 rfl rfl ?_
            refine xi_imul (pc' := 110) (v := 6) kc_58_109 rfl rfl ?_
            obtain ⟨v55, ev55⟩ : ∃ q : Int32, x3 + 6 = q := ⟨_, rfl⟩
            have zv55 : v55.toInt = (x3.toInt + 6) := by rw [← ev55]; exact (xz_add (X := x3.toInt) (Y := 6) rfl (by decide) (by omega) (by omega)).trans (by omega)
            refine xi_iadd (pc' := 111) (v := v55) kc_58_110 rfl ev55 ?_
            have t56 : (-6) ≤ x3.toInt ∧ x3.toInt ≤ 6554 := by omega
            obtain ⟨v57, ev57, bv57, dv57⟩ := xj_get hy53 ry53 (i := v55) (by rw [zv55]; omega) (by rw [zv55]; omega)
            refine xi_iaload (pc' := 112) (v := v57) kc_58_111 rfl A53 (by decide) rfl (xi_in (by rw [zv55]; omega) (by rw [hy53]; rw [zv55]; omega)) ev57 ?_
            refine xi_istore (pc' := 114) (lv' := [(8, .int v57), (7, .int v54), (0, .ref 115), (2, .int x2), (3, .int x3), (4, .int x4), (5, .int 3), (6, .int 1)]) kc_58_112 rfl rfl (xm_lt ml_58 rfl) ?_
            refine xi_aload_n (pc' := 115) (x := 115) kc_58_114 rfl rfl ?_
            refine xi_getfield (pc' := 118) (v := .ref 153) kc_58_115 rfl rfl rfl A45 rfl ?_
            refine xi_iload (pc' := 120) (x := 1) kc_58_118 rfl rfl ?_
            obtain ⟨y58, A58, hy58, ry58⟩ := xk_arr K31.1 xD_153
            obtain ⟨v59, ev59, bv59, dv59⟩ := xj_get hy58 ry58 (i := 1) (by decide) (by decide)
            refine xi_iaload (pc' := 121) (v := v59) kc_58_120 rfl A58 (by decide) rfl (xi_in (by decide) (by rw [hy58]; decide)) ev59 ?_
            refine xi_iload (pc' := 123) (x := v54) kc_58_121 rfl rfl ?_
            refine xi_iload (pc' := 125) (x := v57) kc_58_123 rfl rfl ?_
            by_cases c60 : v54.toInt ≤ v57.toInt
            · refine xi_cmt (pc' := 133) kc_58_125 rfl (xc_le_t (X := v54.toInt) (Y := v57.toInt) rfl rfl (by omega)) ?_
              refine xi_iload (pc' := 135) (x := v57) kc_58_133 rfl rfl ?_
              obtain ⟨v61, ev61⟩ : ∃ q : Int32, (v59 : Int32) + v57 = q := ⟨_, rfl⟩
              have rv61 := xc_rng v61
              refine xi_iadd (pc' := 136) (v := v61) kc_58_135 rfl ev61 ?_
              refine xi_istore (pc' := 138) (lv' := [(9, .int v61), (8, .int v57), (7, .int v54), (0, .ref 115), (2, .int x2), (3, .int x3), (4, .int x4), (5, .int 3), (6, .int 1)]) kc_58_136 rfl rfl (xm_lt ml_58 rfl) ?_
              refine xi_iload (pc' := 140) (x := x4) kc_58_138 rfl rfl ?_
              by_cases c62 : x4.toInt < 0
              · refine xi_ift (pc' := 150) kc_58_140 rfl (xc_lt_t (X := x4.toInt) (Y := 0) rfl (by decide) (by omega)) ?_
                refine xi_iload (pc' := 152) (x := v61) kc_58_150 rfl rfl ?_
                refine xi_goto (pc' := 157) kc_58_152 rfl ?_
                refine xi_istore (pc' := 159) (lv' := [(4, .int v61), (9, .int v61), (8, .int v57), (7, .int v54), (0, .ref 115), (2, .int x2), (3, .int x3), (5, .int 3), (6, .int 1)]) kc_58_157 rfl rfl (xm_lt ml_58 rfl) ?_
                refine xi_iload (pc' := 161) (x := 3) kc_58_159 rfl rfl ?_
                refine xi_iconst (pc' := 162) (v := 3) kc_58_161 rfl rfl ?_
                refine xi_imul (pc' := 163) (v := 9) kc_58_162 rfl rfl ?_
                refine xi_istore (pc' := 165) (lv' := [(5, .int 9), (4, .int v61), (9, .int v61), (8, .int v57), (7, .int v54), (0, .ref 115), (2, .int x2), (3, .int x3), (6, .int 1)]) kc_58_163 rfl rfl (xm_lt ml_58 rfl) ?_
                refine xi_iinc (pc' := 168) (x := 1) (v := 2) (lv' := [(6, .int 2), (5, .int 9), (4, .int v61), (9, .int v61), (8, .int v57), (7, .int v54), (0, .ref 115), (2, .int x2), (3, .int x3)]) kc_58_165 rfl rfl rfl rfl (xm_lt ml_58 rfl) ?_
                refine xi_goto (pc' := 62) kc_58_168 rfl ?_
                have zc2 : (2 : Int32).toInt = 2 := by decide
                have zc9 : (9 : Int32).toInt = 9 := by decide
                refine xw_lv (b := [(0, .ref 115), (2, .int x2), (3, .int x3), (4, .int v61), (5, .int 9), (6, .int 2)]) (lvS_cons (lvS_cons (lvS_cons (lvS_cons (lvS_cons (lvS_cons (lvS_nil (show ([6, 5, 4, 9, 8, 7, 0, 2, 3] : List Nat).Nodup by decide)) rfl) rfl) rfl) rfl) rfl) rfl) ?_
                exact i12 x2 x3 v61 hh29 (by omega) (by omega) K31 (by omega)
              · refine xi_iff (pc' := 143) kc_58_140 rfl (xc_lt_f (X := x4.toInt) (Y := 0) rfl (by decide) (by omega)) ?_
                refine xi_iload (pc' := 145) (x := v61) kc_58_143 rfl rfl ?_
                refine xi_iload (pc' := 147) (x := x4) kc_58_145 rfl rfl ?_
                by_cases c63 : x4.toInt ≤ v61.toInt
                · refine xi_cmt (pc' := 155) kc_58_147 rfl (xc_ge_t (X := v61.toInt) (Y := x4.toInt) rfl rfl (by omega)) ?_
                  refine xi_iload (pc' := 157) (x := x4) kc_58_155 rfl rfl ?_
                  refine xi_istore (pc' := 159) (lv' := [(4, .int x4), (9, .int v61), (8, .int v57), (7, .int v54), (0, .ref 115), (2, .int x2), (3, .int x3), (5, .int 3), (6, .int 1)]) kc_58_157 rfl rfl (xm_lt ml_58 rfl) ?_
                  refine xi_iload (pc' := 161) (x := 3) kc_58_159 rfl rfl ?_
                  refine xi_iconst (pc' := 162) (v := 3) kc_58_161 rfl rfl ?_
                  refine xi_imul (pc' := 163) (v := 9) kc_58_162 rfl rfl ?_
                  refine xi_istore (pc' := 165) (lv' := [(5, .int 9), (4, .int x4), (9, .int v61), (8, .int v57), (7, .int v54), (0, .ref 115), (2, .int x2), (3, .int x3), (6, .int 1)]) kc_58_163 rfl rfl (xm_lt ml_58 rfl) ?_
                  refine xi_iinc (pc' := 168) (x := 1) (v := 2) (lv' := [(6, .int 2), (5, .int 9), (4, .int x4), (9, .int v61), (8, .int v57), (7, .int v54), (0, .ref 115), (2, .int x2), (3, .int x3)]) kc_58_165 rfl rfl rfl rfl (xm_lt ml_58 rfl) ?_
                  refine xi_goto (pc' := 62) kc_58_168 rfl ?_
                  have zc2 : (2 : Int32).toInt = 2 := by decide
                  have zc9 : (9 : Int32).toInt = 9 := by decide
                  refine xw_lv (b := [(0, .ref 115), (2, .int x2), (3, .int x3), (4, .int x4), (5, .int 9), (6, .int 2)]) (lvS_cons (lvS_cons (lvS_cons (lvS_cons (lvS_cons (lvS_cons (lvS_nil (show ([6, 5, 4, 9, 8, 7, 0, 2, 3] : List Nat).Nodup by decide)) rfl) rfl) rfl) rfl) rfl) rfl) ?_
                  exact i12 x2 x3 x4 hh29 (by omega) (by omega) K31 (by omega)
                · refine xi_cmf (pc' := 150) kc_58_147 rfl (xc_ge_f (X := v61.toInt) (Y := x4.toInt) rfl rfl (by omega)) ?_
                  refine xi_iload (pc' := 152) (x := v61) kc_58_150 rfl rfl ?_
                  refine xi_goto (pc' := 157) kc_58_152 rfl ?_
                  refine xi_istore (pc' := 159) (lv' := [(4, .int v61), (9, .int v61), (8, .int v57), (7, .int v54), (0, .ref 115), (2, .int x2), (3, .int x3), (5, .int 3), (6, .int 1)]) kc_58_157 rfl rfl (xm_lt ml_58 rfl) ?_
                  refine xi_iload (pc' := 161) (x := 3) kc_58_159 rfl rfl ?_
                  refine xi_iconst (pc' := 162) (v := 3) kc_58_161 rfl rfl ?_
                  refine xi_imul (pc' := 163) (v := 9) kc_58_162 rfl rfl ?_
                  refine xi_istore (pc' := 165) (lv' := [(5, .int 9), (4, .int v61), (9, .int v61), (8, .int v57), (7, .int v54), (0, .ref 115), (2, .int x2), (3, .int x3), (6, .int 1)]) kc_58_163 rfl rfl (xm_lt ml_58 rfl) ?_
                  refine xi_iinc (pc' := 168) (x := 1) (v := 2) (lv' := [(6, .int 2), (5, .int 9), (4, .int v61), (9, .int v61), (8, .int v57), (7, .int v54), (0, .ref 115), (2, .int x2), (3, .int x3)]) kc_58_165 rfl rfl rfl rfl (xm_lt ml_58 rfl) ?_
                  refine xi_goto (pc' := 62) kc_58_168 rfl ?_
                  have zc2 : (2 : Int32).toInt = 2 := by decide
                  have zc9 : (9 : Int32).toInt = 9 := by decide
                  refine xw_lv (b := [(0, .ref 115), (2, .int x2), (3, .int x3), (4, .int v61), (5, .int 9), (6, .int 2)]) (lvS_cons (lvS_cons (lvS_cons (lvS_cons (lvS_cons (lvS_cons (lvS_nil (show ([6, 5, 4, 9, 8, 7, 0, 2, 3] : List Nat).Nodup by decide)) rfl) rfl) rfl) rfl) rfl) rfl) ?_
                  exact i12 x2 x3 v61 hh29 (by omega) (by omega) K31 (by omega)
            · refine xi_cmf (pc' := 128) kc_58_125 rfl (xc_le_f (X := v54.toInt) (Y := v57.toInt) rfl rfl (by omega)) ?_
              refine xi_iload (pc' := 130) (x := v54) kc_58_128 rfl rfl ?_
              refine xi_goto (pc' := 135) kc_58_130 rfl ?_
              obtain ⟨v64, ev64⟩ : ∃ q : Int32, (v59 : Int32) + v54 = q := ⟨_, rfl⟩
              have rv64 := xc_rng v64
              refine xi_iadd (pc' := 136) (v := v64) kc_58_135 rfl ev64 ?_
              refine xi_istore (pc' := 138) (lv' := [(9, .int v64), (8, .int v57), (7, .int v54), (0, .ref 115), (2, .int x2), (3, .int x3), (4, .int x4), (5, .int 3), (6, .int 1)]) kc_58_136 rfl rfl (xm_lt ml_58 rfl) ?_
              refine xi_iload (pc' := 140) (x := x4) kc_58_138 rfl rfl ?_
              by_cases c65 : x4.toInt < 0
              · refine xi_ift (pc' := 150) kc_58_140 rfl (xc_lt_t (X := x4.toInt) (Y := 0) rfl (by decide) (by omega)) ?_
                refine xi_iload (pc' := 152) (x := v64) kc_58_150 rfl rfl ?_
                refine xi_goto (pc' := 157) kc_58_152 rfl ?_
                refine xi_istore (pc' := 159) (lv' := [(4, .int v64), (9, .int v64), (8, .int v57), (7, .int v54), (0, .ref 115), (2, .int x2), (3, .int x3), (5, .int 3), (6, .int 1)]) kc_58_157 rfl rfl (xm_lt ml_58 rfl) ?_
                refine xi_iload (pc' := 161) (x := 3) kc_58_159 rfl rfl ?_
                refine xi_iconst (pc' := 162) (v := 3) kc_58_161 rfl rfl ?_
                refine xi_imul (pc' := 163) (v := 9) kc_58_162 rfl rfl ?_
                refine xi_istore (pc' := 165) (lv' := [(5, .int 9), (4, .int v64), (9, .int v64), (8, .int v57), (7, .int v54), (0, .ref 115), (2, .int x2), (3, .int x3), (6, .int 1)]) kc_58_163 rfl rfl (xm_lt ml_58 rfl) ?_
                refine xi_iinc (pc' := 168) (x := 1) (v := 2) (lv' := [(6, .int 2), (5, .int 9), (4, .int v64), (9, .int v64), (8, .int v57), (7, .int v54), (0, .ref 115), (2, .int x2), (3, .int x3)]) kc_58_165 rfl rfl rfl rfl (xm_lt ml_58 rfl) ?_
                refine xi_goto (pc' := 62) kc_58_168 rfl ?_
                have zc2 : (2 : Int32).toInt = 2 := by decide
                have zc9 : (9 : Int32).toInt = 9 := by decide
                refine xw_lv (b := [(0, .ref 115), (2, .int x2), (3, .int x3), (4, .int v64), (5, .int 9), (6, .int 2)]) (lvS_cons (lvS_cons (lvS_cons (lvS_cons (lvS_cons (lvS_cons (lvS_nil (show ([6, 5, 4, 9, 8, 7, 0, 2, 3] : List Nat).Nodup by decide)) rfl) rfl) rfl) rfl) rfl) rfl) ?_
                exact i12 x2 x3 v64 hh29 (by omega) (by omega) K31 (by omega)
              · refine xi_iff (pc' := 143) kc_58_140 rfl (xc_lt_f (X := x4.toInt) (Y := 0) rfl (by decide) (by omega)) ?_
                refine xi_iload (pc' := 145) (x := v64) kc_58_143 rfl rfl ?_
                refine xi_iload (pc' := 147) (x := x4) kc_58_145 rfl rfl ?_
                by_cases c66 : x4.toInt ≤ v64.toInt
                · refine xi_cmt (pc' := 155) kc_58_147 rfl (xc_ge_t (X := v64.toInt) (Y := x4.toInt) rfl rfl (by omega)) ?_
                  refine xi_iload (pc' := 157) (x := x4) kc_58_155 rfl rfl ?_
                  refine xi_istore (pc' := 159) (lv' := [(4, .int x4), (9, .int v64), (8, .int v57), (7, .int v54), (0, .ref 115), (2, .int x2), (3, .int x3), (5, .int 3), (6, .int 1)]) kc_58_157 rfl rfl (xm_lt ml_58 rfl) ?_
                  refine xi_iload (pc' := 161) (x := 3) kc_58_159 rfl rfl ?_
                  refine xi_iconst (pc' := 162) (v := 3) kc_58_161 rfl rfl ?_
                  refine xi_imul (pc' := 163) (v := 9) kc_58_162 rfl rfl ?_
                  refine xi_istore (pc' := 165) (lv' := [(5, .int 9), (4, .int x4), (9, .int v64), (8, .int v57), (7, .int v54), (0, .ref 115), (2, .int x2), (3, .int x3), (6, .int 1)]) kc_58_163 rfl rfl (xm_lt ml_58 rfl) ?_
                  refine xi_iinc (pc' := 168) (x := 1) (v := 2) (lv' := [(6, .int 2), (5, .int 9), (4, .int x4), (9, .int v64), (8, .int v57), (7, .int v54), (0, .ref 115), (2, .int x2), (3, .int x3)]) kc_58_165 rfl rfl rfl rfl (xm_lt ml_58 rfl) ?_
                  refine xi_goto (pc' := 62) kc_58_168 rfl ?_
                  have zc2 : (2 : Int32).toInt = 2 := by decide
                  have zc9 : (9 : Int32).toInt = 9 := by decide
                  refine xw_lv (b := [(0, .ref 115), (2, .int x2), (3, .int x3), (4, .int x4), (5, .int 9), (6, .int 2)]) (lvS_cons (lvS_cons (lvS_cons (lvS_cons (lvS_cons (lvS_cons (lvS_nil (show ([6, 5, 4, 9, 8, 7, 0, 2, 3] : List Nat).Nodup by decide)) rfl) rfl) rfl) rfl) rfl) rfl) ?_
                  exact i12 x2 x3 x4 hh29 (by omega) (by omega) K31 (by omega)
                · refine xi_cmf (pc' := 150) kc_58_147 rfl (xc_ge_f (X := v64.toInt) (Y := x4.toInt) rfl rfl (by omega)) ?_
                  refine xi_iload (pc' := 152) (x := v64) kc_58_150 rfl rfl ?_
                  refine xi_goto (pc' := 157) kc_58_152 rfl ?_
                  refine xi_istore (pc' := 159) (lv' := [(4, .int v64), (9, .int v64), (8, .int v57), (7, .int v54), (0, .ref 115), (2, .int x2), (3, .int x3), (5, .int 3), (6, .int 1)]) kc_58_157 rfl rfl (xm_lt ml_58 rfl) ?_
                  refine xi_iload (pc' := 161) (x := 3) kc_58_159 rfl rfl ?_
                  refine xi_iconst (pc' := 162) (v := 3) kc_58_161 rfl rfl ?_
                  refine xi_imul (pc' := 163) (v := 9) kc_58_162 rfl rfl ?_
                  refine xi_istore (pc' := 165) (lv' := [(5, .int 9), (4, .int v64), (9, .int v64), (8, .int v57), (7, .int v54), (0, .ref 115), (2, .int x2), (3, .int x3), (6, .int 1)]) kc_58_163 rfl rfl (xm_lt ml_58 rfl) ?_
                  refine xi_iinc (pc' := 168) (x := 1) (v := 2) (lv' := [(6, .int 2), (5, .int 9), (4, .int v64), (9, .int v64), (8, .int v57), (7, .int v54), (0, .ref 115), (2, .int x2), (3, .int x3)]) kc_58_165 rfl rfl rfl rfl (xm_lt ml_58 rfl) ?_
                  refine xi_goto (pc' := 62) kc_58_168 rfl ?_
                  have zc2 : (2 : Int32).toInt = 2 := by decide
                  have zc9 : (9 : Int32).toInt = 9 := by decide
                  refine xw_lv (b := [(0, .ref 115), (2, .int x2), (3, .int x3), (4, .int v64), (5, .int 9), (6, .int 2)]) (lvS_cons (lvS_cons (lvS_cons (lvS_cons (lvS_cons (lvS_cons (lvS_nil (show ([6, 5, 4, 9, 8, 7, 0, 2, 3] : List Nat).Nodup by decide)) rfl) rfl) rfl) rfl) rfl) rfl) ?_
                  exact i12 x2 x3 v64 hh29 (by omega) (by omega) K31 (by omega)
        · refine xi_ift (pc' := 159) kc_58_77 rfl (xc_ne_t (X := v26.toInt) (Y := 0) rfl (by decide) (by omega)) ?_
          refine xi_iload (pc' := 161) (x := 3) kc_58_159 rfl rfl ?_
          refine xi_iconst (pc' := 162) (v := 3) kc_58_161 rfl rfl ?_
          refine xi_imul (pc' := 163) (v := 9) kc_58_162 rfl rfl ?_
          refine xi_istore (pc' := 165) (lv' := [(5, .int 9), (0, .ref 115), (2, .int x2), (3, .int x3), (4, .int x4), (6, .int 1)]) kc_58_163 rfl rfl (xm_lt ml_58 rfl) ?_
          refine xi_iinc (pc' := 168) (x := 1) (v := 2) (lv' := [(6, .int 2), (5, .int 9), (0, .ref 115), (2, .int x2), (3, .int x3), (4, .int x4)]) kc_58_165 rfl rfl rfl rfl (xm_lt ml_58 rfl) ?_
          refine xi_goto (pc' := 62) kc_58_168 rfl ?_
          have zc2 : (2 : Int32).toInt = 2 := by decide
          have zc9 : (9 : Int32).toInt = 9 := by decide
          refine xw_lv (b := [(0, .ref 115), (2, .int x2), (3, .int x3), (4, .int x4), (5, .int 9), (6, .int 2)]) (lvS_cons (lvS_cons (lvS_cons (lvS_cons (lvS_cons (lvS_cons (lvS_nil (show ([6, 5, 0, 2, 3, 4] : List Nat).Nodup by decide)) rfl) rfl) rfl) rfl) rfl) rfl) ?_
          exact i12 x2 x3 x4 h (by omega) (by omega) K (by omega)
    · intro x2 x3 x4 h b2 b3 K hm
      have rx4 := xc_rng x4
      refine xi_iload (pc' := 64) (x := 2) kc_58_62 rfl rfl ?_
      refine xi_aload_n (pc' := 65) (x := 115) kc_58_64 rfl rfl ?_
      obtain ⟨u1, u2, u3, u4, u5, u6, u7, u8, u9, u10, u11, u12, u13, bu1, bu2, bu3, bu4, bu5, bu6, bu7, bu8, bu9, bu10, bu11, bu12, bu13, A14⟩ := xq_115 K.1
      refine xi_getfield (pc' := 68) (v := .int u10) kc_58_65 rfl rfl rfl A14 rfl ?_
      by_cases c15 : u10.toInt ≤ 2
      · refine xi_cmt (pc' := 171) kc_58_68 rfl (xc_ge_t (X := 2) (Y := u10.toInt) (by decide) rfl (by omega)) ?_
        refine xi_aload_n (pc' := 172) (x := 115) kc_58_171 rfl rfl ?_
        refine xi_getfield (pc' := 175) (v := .ref 155) kc_58_172 rfl rfl rfl A14 rfl ?_
        refine xi_iload_n (pc' := 176) (x := x3) kc_58_175 rfl rfl ?_
        refine xi_iload (pc' := 178) (x := x4) kc_58_176 rfl rfl ?_
        by_cases c16 : 0 ≤ x4.toInt
        · refine xi_ift (pc' := 185) kc_58_178 rfl (xc_ge_t (X := x4.toInt) (Y := 0) rfl (by decide) (by omega)) ?_
          refine xi_iload (pc' := 187) (x := x4) kc_58_185 rfl rfl ?_
          obtain ⟨y17, A17, hy17, ry17⟩ := xk_arr K.1 xD_155
          obtain ⟨y18, s18, hy18, ry18⟩ := xj_set (v := x4) hy17 ry17 x3 (by first | omega | decide) (by first | omega | decide)
          refine xi_iastore (pc' := 188) (x' := y18) kc_58_187 rfl A17 rfl (xi_in (by omega) (by rw [hy17]; omega)) s18 (fun hh18 eh18 => ?_)
          have K19 := xk_pa K (xk_wa (by decide +kernel)) xD_155 hy18 ry18 eh18
          obtain ⟨v20, ev20⟩ : ∃ q : Int32, x3 + (-1) = q := ⟨_, rfl⟩
          have zv20 : v20.toInt = (x3.toInt + (-1)) := by rw [← ev20]; exact (xz_add (X := x3.toInt) (Y := (-1)) rfl (by decide) (by omega) (by omega)).trans (by omega)
          refine xi_iinc (pc' := 191) (x := x3) (v := v20) (lv' := [(3, .int v20), (0, .ref 115), (2, .int x2), (4, .int x4), (5, .int 9), (6, .int 2)]) kc_58_188 rfl rfl ev20 rfl (xm_lt ml_58 rfl) ?_
          refine xi_goto (pc' := 48) kc_58_191 rfl ?_
          refine xw_lv (b := [(0, .ref 115), (2, .int x2), (3, .int v20)]) (lvS_cons (lvS_cons (lvS_cons (lvS_nil (show ([3, 0, 2, 4, 5, 6] : List Nat).Nodup by decide)) rfl) rfl) rfl) ?_
          exact i9 x2 v20 hh18 (by omega) (by omega) K19 (by omega)
        · refine xi_iff (pc' := 181) kc_58_178 rfl (xc_ge_f (X := x4.toInt) (Y := 0) rfl (by decide) (by omega)) ?_
          refine xi_iconst (pc' := 182) (v := 0) kc_58_181 rfl rfl ?_
          refine xi_goto (pc' := 187) kc_58_182 rfl ?_
          obtain ⟨y21, A21, hy21, ry21⟩ := xk_arr K.1 xD_155
          obtain ⟨y22, s22, hy22, ry22⟩ := xj_set (v := 0) hy21 ry21 x3 (by first | omega | decide) (by first | omega | decide)
          refine xi_iastore (pc' := 188) (x' := y22) kc_58_187 rfl A21 rfl (xi_in (by omega) (by rw [hy21]; omega)) s22 (fun hh22 eh22 => ?_)
          have K23 := xk_pa K (xk_wa (by decide +kernel)) xD_155 hy22 ry22 eh22
          obtain ⟨v24, ev24⟩ : ∃ q : Int32, x3 + (-1) = q := ⟨_, rfl⟩
          have zv24 : v24.toInt = (x3.toInt + (-1)) := by rw [← ev24]; exact (xz_add (X := x3.toInt) (Y := (-1)) rfl (by decide) (by omega) (by omega)).trans (by omega)
          refine xi_iinc (pc' := 191) (x := x3) (v := v24) (lv' := [(3, .int v24), (0, .ref 115), (2, .int x2), (4, .int x4), (5, .int 9), (6, .int 2)]) kc_58_188 rfl rfl ev24 rfl (xm_lt ml_58 rfl) ?_
          refine xi_goto (pc' := 48) kc_58_191 rfl ?_
          refine xw_lv (b := [(0, .ref 115), (2, .int x2), (3, .int v24)]) (lvS_cons (lvS_cons (lvS_cons (lvS_nil (show ([3, 0, 2, 4, 5, 6] : List Nat).Nodup by decide)) rfl) rfl) rfl) ?_
          exact i9 x2 v24 hh22 (by omega) (by omega) K23 (by omega)
      · refine xi_cmf (pc' := 71) kc_58_68 rfl (xc_ge_f (X := 2) (Y := u10.toInt) (by decide) rfl (by omega)) ?_
        refine xi_iload_n (pc' := 72) (x := x3) kc_58_71 rfl rfl ?_
        refine xi_iload (pc' := 74) (x := 9) kc_58_72 rfl rfl ?_
        obtain ⟨v25, ev25⟩ : ∃ q : Int32, x3 / 9 = q := ⟨_, rfl⟩
        have dv25 : v25.toInt = x3.toInt / 9 := by rw [← ev25]; exact xz_dive (X := x3.toInt) (Y := 9) rfl (by decide) (by omega) (by decide)
        have bv25 : 0 ≤ v25.toInt ∧ v25.toInt ≤ 728 := by omega
        refine xi_idiv (pc' := 75) (v := v25) kc_58_74 rfl ev25 (by decide) ?_
        refine xi_iconst (pc' := 76) (v := 3) kc_58_75 rfl rfl ?_
        obtain ⟨v26, ev26⟩ : ∃ q : Int32, v25 - v25 / 3 * 3 = q := ⟨_, rfl⟩
        have dv26 : v26.toInt = v25.toInt % 3 := by rw [← ev26]; exact xz_reme (X := v25.toInt) (Y := 3) rfl (by decide) (by omega) (by decide)
        have bv26 : 0 ≤ v26.toInt ∧ v26.toInt ≤ 2 := by omega
        refine xi_irem (pc' := 77) (v := v26) kc_58_76 rfl ev26 (by decide) ?_
        by_cases c27 : v26.toInt = 0
        · refine xi_iff (pc' := 80) kc_58_77 rfl (xc_ne_f (X := v26.toInt) (Y := 0) rfl (by decide) (by omega)) ?_
          refine xi_aload_n (pc' := 81) (x := 115) kc_58_80 rfl rfl ?_
          refine xi_iload_n (pc' := 82) (x := x3) kc_58_81 rfl rfl ?_
          refine xi_iload (pc' := 84) (x := 2) kc_58_82 rfl rfl ?_
          refine xi_virtual (mj := 59) (as := [.int x3, .int 2]) (st1 := []) (lv0 := [(0, .ref 115), (1, .int x3), (2, .int 2)]) kc_58_84 rfl rfl rfl rfl rfl A14 (Nat.le_of_ble_eq_true rfl) (hJ _ _ _ _ (by decide)) (xm_le ml_59 rfl) rfl ?_
          have zc2 : (2 : Int32).toInt = 2 := by decide
          refine mt_59_0 hJ hov1 hov2 (d := d + 3) (x1 := x3) (x2 := 2) K.1 (by first | omega | decide) (by first | omega | decide) (fun r28 hh29 br28 K30 => ?_)
          have K31 := xk_tr K K30 (xsb_ok _ _ (by decide +kernel))
          obtain ⟨u32, u33, u34, u35, u36, u37, u38, u39, u40, u41, u42, u43, u44, bu32, bu33, bu34, bu35, bu36, bu37, bu38, bu39, bu40, bu41, bu42, bu43, bu44, A45⟩ := xq_115 K31.1
          have e46 : u2 = u33 := xk_eqi (q := 1) K30 (by decide +kernel) A14 A45 rfl rfl
          subst e46
          have e47 : u5 = u36 := xk_eqi (q := 23) K30 (by decide +kernel) A14 A45 rfl rfl
          subst e47
          have e48 : u8 = u39 := xk_eqi (q := 34) K30 (by decide +kernel) A14 A45 rfl rfl
          subst e48
          have e49 : u6 = u37 := xk_eqi (q := 32) K30 (by decide +kernel) A14 A45 rfl rfl
          subst e49
          show xw J ov (d + 7) 58 (87, [(0, .ref 115), (2, .int x2), (3, .int x3), (4, .int x4), (5, .int 9), (6, .int 2)], [.int r28], hh29) _
          by_cases c50 : r28.toInt = 0
          · refine xi_ift (pc' := 159) kc_58_87 rfl (xc_eq_t (X := r28.toInt) (Y := 0) rfl (by decide) (by omega)) ?_
            refine xi_iload (pc' := 161) (x := 9) kc_58_159 rfl rfl ?_
            refine xi_iconst (pc' := 162) (v := 3) kc_58_161 rfl rfl ?_
            refine xi_imul (pc' := 163) (v := 27) kc_58_162 rfl rfl ?_
            refine xi_istore (pc' := 165) (lv' := [(5, .int 27), (0, .ref 115), (2, .int x2), (3, .int x3), (4, .int x4), (6, .int 2)]) kc_58_163 rfl rfl (xm_lt ml_58 rfl) ?_
            refine xi_iinc (pc' := 168) (x := 2) (v := 3) (lv' := [(6, .int 3), (5, .int 27), (0, .ref 115), (2, .int x2), (3, .int x3), (4, .int x4)]) kc_58_165 rfl rfl rfl rfl (xm_lt ml_58 rfl) ?_
            refine xi_goto (pc' := 62) kc_58_168 rfl ?_
            have zc3 : (3 : Int32).toInt = 3 := by decide
            have zc27 : (27 : Int32).toInt = 27 := by decide
            refine xw_lv (b := [(0, .ref 115), (2, .int x2), (3, .int x3), (4, .int x4), (5, .int 27), (6, .int 3)]) (lvS_cons (lvS_cons (lvS_cons (lvS_cons (lvS_cons (lvS_cons (lvS_nil (show ([6, 5, 0, 2, 3, 4] : List Nat).Nodup by decide)) rfl) rfl) rfl) rfl) rfl) rfl) ?_
            exact i13 x2 x3 x4 hh29 (by omega) (by omega) K31 (by omega)
          · refine xi_iff (pc' := 90) kc_58_87 rfl (xc_eq_f (X := r28.toInt) (Y := 0) rfl (by decide) (by omega)) ?_
            refine xi_aload_n (pc' := 91) (x := 115) kc_58_90 rfl rfl ?_
            refine xi_getfield (pc' := 94) (v := .ref 155) kc_58_91 rfl rfl rfl A45 rfl ?_
            refine xi_iload_n (pc' := 95) (x := x3) kc_58_94 rfl rfl ?_
            refine xi_iload (pc' := 97) (x := 9) kc_58_95 rfl rfl ?_
            obtain ⟨v51, ev51⟩ : ∃ q : Int32, x3 + 9 = q := ⟨_, rfl⟩
            have zv51 : v51.toInt = (x3.toInt + 9) := by rw [← ev51]; exact (xz_add (X := x3.toInt) (Y := 9) rfl (by decide) (by omega) (by omega)).trans (by omega)
            refine xi_iadd (pc' := 98) (v := v51) kc_58_97 rfl ev51 ?_
            have t52 : (-9) ≤ x3.toInt ∧ x3.toInt ≤ 6551 := by omega
            obtain ⟨y53, A53, hy53, ry53⟩ := xk_arr K31.1 xD_155
            obtain ⟨v54, ev54, bv54, dv54⟩ := xj_get hy53 ry53 (i := v51) (by rw [zv51]; omega) (by rw [zv51]; omega)
            refine xi_iaload (pc' := 99) (v := v54) kc_58_98 rfl A53 (by decide) rfl (xi_in (by rw [zv51]; omega) (by rw [hy53]; rw [zv51]; omega)) ev54 ?_
            refine xi_istore (pc' := 101) (lv' := [(7, .int v54), (0, .ref 115), (2, .int x2), (3, .int x3), (4, .int x4), (5, .int 9), (6, .int 2)]) kc_58_99 rfl rfl (xm_lt ml_58 rfl) ?_
            refine xi_aload_n (pc' := 102) (x := 115) kc_58_101 rfl rfl ?_
            refine xi_getfield (pc' := 105) (v := .ref 155) kc_58_102 rfl rfl rfl A45 rfl ?_
            refine xi_iload_n (pc' := 106) (x := x3) kc_58_105 rfl rfl ?_
            refine xi_iconst (pc' := 107) (v := 2) kc_58_106 rfl rfl ?_
            refine xi_iload (pc' := 109) (x := 9) kc_58_107 rfl rfl ?_
            refine xi_imul (pc' := 110) (v := 18) kc_58_109 rfl rfl ?_
            obtain ⟨v55, ev55⟩ : ∃ q : Int32, x3 + 18 = q := ⟨_, rfl⟩
            have zv55 : v55.toInt = (x3.toInt + 18) := by rw [← ev55]; exact (xz_add (X := x3.toInt) (Y := 18) rfl (by decide) (by omega) (by omega)).trans (by omega)
            refine xi_iadd (pc' := 111) (v := v55) kc_58_110 rfl ev55 ?_
            have t56 : (-18) ≤ x3.toInt ∧ x3.toInt ≤ 6542 := by omega
            obtain ⟨v57, ev57, bv57, dv57⟩ := xj_get hy53 ry53 (i := v55) (by rw [zv55]; omega) (by rw [zv55]; omega)
            refine xi_iaload (pc' := 112) (v := v57) kc_58_111 rfl A53 (by decide) rfl (xi_in (by rw [zv55]; omega) (by rw [hy53]; rw [zv55]; omega)) ev57 ?_
            refine xi_istore (pc' := 114) (lv' := [(8, .int v57), (7, .int v54), (0, .ref 115), (2, .int x2), (3, .int x3), (4, .int x4), (5, .int 9), (6, .int 2)]) kc_58_112 rfl rfl (xm_lt ml_58 rfl) ?_
            refine xi_aload_n (pc' := 115) (x := 115) kc_58_114 rfl rfl ?_
            refine xi_getfield (pc' := 118) (v := .ref 153) kc_58_115 rfl rfl rfl A45 rfl ?_
            refine xi_iload (pc' := 120) (x := 2) kc_58_118 rfl rfl ?_
            obtain ⟨y58, A58, hy58, ry58⟩ := xk_arr K31.1 xD_153
            obtain ⟨v59, ev59, bv59, dv59⟩ := xj_get hy58 ry58 (i := 2) (by decide) (by decide)
            refine xi_iaload (pc' := 121) (v := v59) kc_58_120 rfl A58 (by decide) rfl (xi_in (by decide) (by rw [hy58]; decide)) ev59 ?_
            refine xi_iload (pc' := 123) (x := v54) kc_58_121 rfl rfl ?_
            refine xi_iload (pc' := 125) (x := v57) kc_58_123 rfl rfl ?_
            by_cases c60 : v54.toInt ≤ v57.toInt
            · refine xi_cmt (pc' := 133) kc_58_125 rfl (xc_le_t (X := v54.toInt) (Y := v57.toInt) rfl rfl (by omega)) ?_
              refine xi_iload (pc' := 135) (x := v57) kc_58_133 rfl rfl ?_
              obtain ⟨v61, ev61⟩ : ∃ q : Int32, (v59 : Int32) + v57 = q := ⟨_, rfl⟩
              have rv61 := xc_rng v61
              refine xi_iadd (pc' := 136) (v := v61) kc_58_135 rfl ev61 ?_
              refine xi_istore (pc' := 138) (lv' := [(9, .int v61), (8, .int v57), (7, .int v54), (0, .ref 115), (2, .int x2), (3, .int x3), (4, .int x4), (5, .int 9), (6, .int 2)]) kc_58_136 rfl rfl (xm_lt ml_58 rfl) ?_
              refine xi_iload (pc' := 140) (x := x4) kc_58_138 rfl rfl ?_
              by_cases c62 : x4.toInt < 0
              · refine xi_ift (pc' := 150) kc_58_140 rfl (xc_lt_t (X := x4.toInt) (Y := 0) rfl (by decide) (by omega)) ?_
                refine xi_iload (pc' := 152) (x := v61) kc_58_150 rfl rfl ?_
                refine xi_goto (pc' := 157) kc_58_152 rfl ?_
                refine xi_istore (pc' := 159) (lv' := [(4, .int v61), (9, .int v61), (8, .int v57), (7, .int v54), (0, .ref 115), (2, .int x2), (3, .int x3), (5, .int 9), (6, .int 2)]) kc_58_157 rfl rfl (xm_lt ml_58 rfl) ?_
                refine xi_iload (pc' := 161) (x := 9) kc_58_159 rfl rfl ?_
                refine xi_iconst (pc' := 162) (v := 3) kc_58_161 rfl rfl ?_
                refine xi_imul (pc' := 163) (v := 27) kc_58_162 rfl rfl ?_
                refine xi_istore (pc' := 165) (lv' := [(5, .int 27), (4, .int v61), (9, .int v61), (8, .int v57), (7, .int v54), (0, .ref 115), (2, .int x2), (3, .int x3), (6, .int 2)]) kc_58_163 rfl rfl (xm_lt ml_58 rfl) ?_
                refine xi_iinc (pc' := 168) (x := 2) (v := 3) (lv' := [(6, .int 3), (5, .int 27), (4, .int v61), (9, .int v61), (8, .int v57), (7, .int v54), (0, .ref 115), (2, .int x2), (3, .int x3)]) kc_58_165 rfl rfl rfl rfl (xm_lt ml_58 rfl) ?_
                refine xi_goto (pc' := 62) kc_58_168 rfl ?_
                have zc3 : (3 : Int32).toInt = 3 := by decide
                have zc27 : (27 : Int32).toInt = 27 := by decide
                refine xw_lv (b := [(0, .ref 115), (2, .int x2), (3, .int x3), (4, .int v61), (5, .int 27), (6, .int 3)]) (lvS_cons (lvS_cons (lvS_cons (lvS_cons (lvS_cons (lvS_cons (lvS_nil (show ([6, 5, 4, 9, 8, 7, 0, 2, 3] : List Nat).Nodup by decide)) rfl) rfl) rfl) rfl) rfl) rfl) ?_
                exact i13 x2 x3 v61 hh29 (by omega) (by omega) K31 (by omega)
              · refine xi_iff (pc' := 143) kc_58_140 rfl (xc_lt_f (X := x4.toInt) (Y := 0) rfl (by decide) (by omega)) ?_
                refine xi_iload (pc' := 145) (x := v61) kc_58_143 rfl rfl ?_
                refine xi_iload (pc' := 147) (x := x4) kc_58_145 rfl rfl ?_
                by_cases c63 : x4.toInt ≤ v61.toInt
                · refine xi_cmt (pc' := 155) kc_58_147 rfl (xc_ge_t (X := v61.toInt) (Y := x4.toInt) rfl rfl (by omega)) ?_
                  refine xi_iload (pc' := 157) (x := x4) kc_58_155 rfl rfl ?_
                  refine xi_istore (pc' := 159) (lv' := [(4, .int x4), (9, .int v61), (8, .int v57), (7, .int v54), (0, .ref 115), (2, .int x2), (3, .int x3), (5, .int 9), (6, .int 2)]) kc_58_157 rfl rfl (xm_lt ml_58 rfl) ?_
                  refine xi_iload (pc' := 161) (x := 9) kc_58_159 rfl rfl ?_
                  refine xi_iconst (pc' := 162) (v := 3) kc_58_161 rfl rfl ?_
                  refine xi_imul (pc' := 163) (v := 27) kc_58_162 rfl rfl ?_
                  refine xi_istore (pc' := 165) (lv' := [(5, .int 27), (4, .int x4), (9, .int v61), (8, .int v57), (7, .int v54), (0, .ref 115), (2, .int x2), (3, .int x3), (6, .int 2)]) kc_58_163 rfl rfl (xm_lt ml_58 rfl) ?_
                  refine xi_iinc (pc' := 168) (x := 2) (v := 3) (lv' := [(6, .int 3), (5, .int 27), (4, .int x4), (9, .int v61), (8, .int v57), (7, .int v54), (0, .ref 115), (2, .int x2), (3, .int x3)]) kc_58_165 rfl rfl rfl rfl (xm_lt ml_58 rfl) ?_
                  refine xi_goto (pc' := 62) kc_58_168 rfl ?_
                  have zc3 : (3 : Int32).toInt = 3 := by decide
                  have zc27 : (27 : Int32).toInt = 27 := by decide
                  refine xw_lv (b := [(0, .ref 115), (2, .int x2), (3, .int x3), (4, .int x4), (5, .int 27), (6, .int 3)]) (lvS_cons (lvS_cons (lvS_cons (lvS_cons (lvS_cons (lvS_cons (lvS_nil (show ([6, 5, 4, 9, 8, 7, 0, 2, 3] : List Nat).Nodup by decide)) rfl) rfl) rfl) rfl) rfl) rfl) ?_
                  exact i13 x2 x3 x4 hh29 (by omega) (by omega) K31 (by omega)
                · refine xi_cmf (pc' := 150) kc_58_147 rfl (xc_ge_f (X := v61.toInt) (Y := x4.toInt) rfl rfl (by omega)) ?_
                  refine xi_iload (pc' := 152) (x := v61) kc_58_150 rfl rfl ?_
                  refine xi_goto (pc' := 157) kc_58_152 rfl ?_
                  refine xi_istore (pc' := 159) (lv' := [(4, .int v61), (9, .int v61), (8, .int v57), (7, .int v54), (0, .ref 115), (2, .int x2), (3, .int x3), (5, .int 9), (6, .int 2)]) kc_58_157 rfl rfl (xm_lt ml_58 rfl) ?_
                  refine xi_iload (pc' := 161) (x := 9) kc_58_159 rfl rfl ?_
                  refine xi_iconst (pc' := 162) (v := 3) kc_58_161 rfl rfl ?_
                  refine xi_imul (pc' := 163) (v := 27) kc_58_162 rfl rfl ?_
                  refine xi_istore (pc' := 165) (lv' := [(5, .int 27), (4, .int v61), (9, .int v61), (8, .int v57), (7, .int v54), (0, .ref 115), (2, .int x2), (3, .int x3), (6, .int 2)]) kc_58_163 rfl rfl (xm_lt ml_58 rfl) ?_
                  refine xi_iinc (pc' := 168) (x := 2) (v := 3) (lv' := [(6, .int 3), (5, .int 27), (4, .int v61), (9, .int v61), (8, .int v57), (7, .int v54), (0, .ref 115), (2, .int x2), (3, .int x3)]) kc_58_165 rfl rfl rfl rfl (xm_lt ml_58 rfl) ?_
                  refine xi_goto (pc' := 62) kc_58_168 rfl ?_
                  have zc3 : (3 : Int32).toInt = 3 := by decide
                  have zc27 : (27 : Int32).toInt = 27 := by decide
                  refine xw_lv (b := [(0, .ref 115), (2, .int x2), (3, .int x3), (4, .int v61), (5, .int 27), (6, .int 3)]) (lvS_cons (lvS_cons (lvS_cons (lvS_cons (lvS_cons (lvS_cons (lvS_nil (show ([6, 5, 4, 9, 8, 7, 0, 2, 3] : List Nat).Nodup by decide)) rfl) rfl) rfl) rfl) rfl) rfl) ?_
                  exact i13 x2 x3 v61 hh29 (by omega) (by omega) K31 (by omega)
            · refine xi_cmf (pc' := 128) kc_58_125 rfl (xc_le_f (X := v54.toInt) (Y := v57.toInt) rfl rfl (by omega)) ?_
              refine xi_iload (pc' := 130) (x := v54) kc_58_128 rfl rfl ?_
              refine xi_goto (pc' := 135) kc_58_130 rfl ?_
              obtain ⟨v64, ev64⟩ : ∃ q : Int32, (v59 : Int32) + v54 = q := ⟨_, rfl⟩
              have rv64 := xc_rng v64
              refine xi_iadd (pc' := 136) (v := v64) kc_58_135 rfl ev64 ?_
              refine xi_istore (pc' := 138) (lv' := [(9, .int v64), (8, .int v57), (7, .int v54), (0, .ref 115), (2, .int x2), (3, .int x3), (4, .int x4), (5, .int 9), (6, .int 2)]) kc_58_136 rfl rfl (xm_lt ml_58 rfl) ?_
              refine xi_iload (pc' := 140) (x := x4) kc_58_138 rfl rfl ?_
              by_cases c65 : x4.toInt < 0
              · refine xi_ift (pc' := 150) kc_58_140 rfl (xc_lt_t (X := x4.toInt) (Y := 0) rfl (by decide) (by omega)) ?_
                refine xi_iload (pc' := 152) (x := v64) kc_58_150 rfl rfl ?_
                refine xi_goto (pc' := 157) kc_58_152 rfl ?_
                refine xi_istore (pc' := 159) (lv' := [(4, .int v64), (9, .int v64), (8, .int v57), (7, .int v54), (0, .ref 115), (2, .int x2), (3, .int x3), (5, .int 9), (6, .int 2)]) kc_58_157 rfl rfl (xm_lt ml_58 rfl) ?_
                refine xi_iload (pc' := 161) (x := 9) kc_58_159 rfl rfl ?_
                refine xi_iconst (pc' := 162) (v := 3) kc_58_161 rfl rfl ?_
                refine xi_imul (pc' := 163) (v := 27) kc_58_162 rfl rfl ?_
                refine xi_istore (pc' := 165) (lv' := [(5, .int 27), (4, .int v64), (9, .int v64), (8, .int v57), (7, .int v54), (0, .ref 115), (2, .int x2), (3, .int x3), (6, .int 2)]) kc_58_163 rfl rfl (xm_lt ml_58 rfl) ?_
                refine xi_iinc (pc' := 168) (x := 2) (v := 3) (lv' := [(6, .int 3), (5, .int 27), (4, .int v64), (9, .int v64), (8, .int v57), (7, .int v54), (0, .ref 115), (2, .int x2), (3, .int x3)]) kc_58_165 rfl rfl rfl rfl (xm_lt ml_58 rfl) ?_
                refine xi_goto (pc' := 62) kc_58_168 rfl ?_
                have zc3 : (3 : Int32).toInt = 3 := by decide
                have zc27 : (27 : Int32).toInt = 27 := by decide
                refine xw_lv (b := [(0, .ref 115), (2, .int x2), (3, .int x3), (4, .int v64), (5, .int 27), (6, .int 3)]) (lvS_cons (lvS_cons (lvS_cons (lvS_cons (lvS_cons (lvS_cons (lvS_nil (show ([6, 5, 4, 9, 8, 7, 0, 2, 3] : List Nat).Nodup by decide)) rfl) rfl) rfl) rfl) rfl) rfl) ?_
                exact i13 x2 x3 v64 hh29 (by omega) (by omega) K31 (by omega)
              · refine xi_iff (pc' := 143) kc_58_140 rfl (xc_lt_f (X := x4.toInt) (Y := 0) rfl (by decide) (by omega)) ?_
                refine xi_iload (pc' := 145) (x := v64) kc_58_143 rfl rfl ?_
                refine xi_iload (pc' := 147) (x := x4) kc_58_145 rfl rfl ?_
                by_cases c66 : x4.toInt ≤ v64.toInt
                · refine xi_cmt (pc' := 155) kc_58_147 rfl (xc_ge_t (X := v64.toInt) (Y := x4.toInt) rfl rfl (by omega)) ?_
                  refine xi_iload (pc' := 157) (x := x4) kc_58_155 rfl rfl ?_
                  refine xi_istore (pc' := 159) (lv' := [(4, .int x4), (9, .int v64), (8, .int v57), (7, .int v54), (0, .ref 115), (2, .int x2), (3, .int x3), (5, .int 9), (6, .int 2)]) kc_58_157 rfl rfl (xm_lt ml_58 rfl) ?_
                  refine xi_iload (pc' := 161) (x := 9) kc_58_159 rfl rfl ?_
                  refine xi_iconst (pc' := 162) (v := 3) kc_58_161 rfl rfl ?_
                  refine xi_imul (pc' := 163) (v := 27) kc_58_162 rfl rfl ?_
                  refine xi_istore (pc' := 165) (lv' := [(5, .int 27), (4, .int x4), (9, .int v64), (8, .int v57), (7, .int v54), (0, .ref 115), (2, .int x2), (3, .int x3), (6, .int 2)]) kc_58_163 rfl rfl (xm_lt ml_58 rfl) ?_
                  refine xi_iinc (pc' := 168) (x := 2) (v := 3) (lv' := [(6, .int 3), (5, .int 27), (4, .int x4), (9, .int v64), (8, .int v57), (7, .int v54), (0, .ref 115), (2, .int x2), (3, .int x3)]) kc_58_165 rfl rfl rfl rfl (xm_lt ml_58 rfl) ?_
                  refine xi_goto (pc' := 62) kc_58_168 rfl ?_
                  have zc3 : (3 : Int32).toInt = 3 := by decide
                  have zc27 : (27 : Int32).toInt = 27 := by decide
                  refine xw_lv (b := [(0, .ref 115), (2, .int x2), (3, .int x3), (4, .int x4), (5, .int 27), (6, .int 3)]) (lvS_cons (lvS_cons (lvS_cons (lvS_cons (lvS_cons (lvS_cons (lvS_nil (show ([6, 5, 4, 9, 8, 7, 0, 2, 3] : List Nat).Nodup by decide)) rfl) rfl) rfl) rfl) rfl) rfl) ?_
                  exact i13 x2 x3 x4 hh29 (by omega) (by omega) K31 (by omega)
                · refine xi_cmf (pc' := 150) kc_58_147 rfl (xc_ge_f (X := v64.toInt) (Y := x4.toInt) rfl rfl (by omega)) ?_
                  refine xi_iload (pc' := 152) (x := v64) kc_58_150 rfl rfl ?_
                  refine xi_goto (pc' := 157) kc_58_152 rfl ?_
                  refine xi_istore (pc' := 159) (lv' := [(4, .int v64), (9, .int v64), (8, .int v57), (7, .int v54), (0, .ref 115), (2, .int x2), (3, .int x3), (5, .int 9), (6, .int 2)]) kc_58_157 rfl rfl (xm_lt ml_58 rfl) ?_
                  refine xi_iload (pc' := 161) (x := 9) kc_58_159 rfl rfl ?_
                  refine xi_iconst (pc' := 162) (v := 3) kc_58_161 rfl rfl ?_
                  refine xi_imul (pc' := 163) (v := 27) kc_58_162 rfl rfl ?_
                  refine xi_istore (pc' := 165) (lv' := [(5, .int 27), (4, .int v64), (9, .int v64), (8, .int v57), (7, .int v54), (0, .ref 115), (2, .int x2), (3, .int x3), (6, .int 2)]) kc_58_163 rfl rfl (xm_lt ml_58 rfl) ?_
                  refine xi_iinc (pc' := 168) (x := 2) (v := 3) (lv' := [(6, .int 3), (5, .int 27), (4, .int v64), (9, .int v64), (8, .int v57), (7, .int v54), (0, .ref 115), (2, .int x2), (3, .int x3)]) kc_58_165 rfl rfl rfl rfl (xm_lt ml_58 rfl) ?_
                  refine xi_goto (pc' := 62) kc_58_168 rfl ?_
                  have zc3 : (3 : Int32).toInt = 3 := by decide
                  have zc27 : (27 : Int32).toInt = 27 := by decide
                  refine xw_lv (b := [(0, .ref 115), (2, .int x2), (3, .int x3), (4, .int v64), (5, .int 27), (6, .int 3)]) (lvS_cons (lvS_cons (lvS_cons (lvS_cons (lvS_cons (lvS_cons (lvS_nil (show ([6, 5, 4, 9, 8, 7, 0, 2, 3] : List Nat).Nodup by decide)) rfl) rfl) rfl) rfl) rfl) rfl) ?_
                  exact i13 x2 x3 v64 hh29 (by omega) (by omega) K31 (by omega)
        · refine xi_ift (pc' := 159) kc_58_77 rfl (xc_ne_t (X := v26.toInt) (Y := 0) rfl (by decide) (by omega)) ?_
          refine xi_iload (pc' := 161) (x := 9) kc_58_159 rfl rfl ?_
          refine xi_iconst (pc' := 162) (v := 3) kc_58_161 rfl rfl ?_
          refine xi_imul (pc' := 163) (v := 27) kc_58_162 rfl rfl ?_
          refine xi_istore (pc' := 165) (lv' := [(5, .int 27), (0, .ref 115), (2, .int x2), (3, .int x3), (4, .int x4), (6, .int 2)]) kc_58_163 rfl rfl (xm_lt ml_58 rfl) ?_
          refine xi_iinc (pc' := 168) (x := 2) (v := 3) (lv' := [(6, .int 3), (5, .int 27), (0, .ref 115), (2, .int x2), (3, .int x3), (4, .int x4)]) kc_58_165 rfl rfl rfl rfl (xm_lt ml_58 rfl) ?_
          refine xi_goto (pc' := 62) kc_58_168 rfl ?_
          have zc3 : (3 : Int32).toInt = 3 := by decide
          have zc27 : (27 : Int32).toInt = 27 := by decide
          refine xw_lv (b := [(0, .ref 115), (2, .int x2), (3, .int x3), (4, .int x4), (5, .int 27), (6, .int 3)]) (lvS_cons (lvS_cons (lvS_cons (lvS_cons (lvS_cons (lvS_cons (lvS_nil (show ([6, 5, 0, 2, 3, 4] : List Nat).Nodup by decide)) rfl) rfl) rfl) rfl) rfl) rfl) ?_
          exact i13 x2 x3 x4 h (by omega) (by omega) K (by omega)
    · intro x2 x3 x4 h b2 b3 K hm
      have rx4 := xc_rng x4
      refine xi_iload (pc' := 64) (x := 3) kc_58_62 rfl rfl ?_
      refine xi_aload_n (pc' := 65) (x := 115) kc_58_64 rfl rfl ?_
      obtain ⟨u1, u2, u3, u4, u5, u6, u7, u8, u9, u10, u11, u12, u13, bu1, bu2, bu3, bu4, bu5, bu6, bu7, bu8, bu9, bu10, bu11, bu12, bu13, A14⟩ := xq_115 K.1
      refine xi_getfield (pc' := 68) (v := .int u10) kc_58_65 rfl rfl rfl A14 rfl ?_
      by_cases c15 : u10.toInt ≤ 3
      · refine xi_cmt (pc' := 171) kc_58_68 rfl (xc_ge_t (X := 3) (Y := u10.toInt) (by decide) rfl (by omega)) ?_
        refine xi_aload_n (pc' := 172) (x := 115) kc_58_171 rfl rfl ?_
        refine xi_getfield (pc' := 175) (v := .ref 155) kc_58_172 rfl rfl rfl A14 rfl ?_
        refine xi_iload_n (pc' := 176) (x := x3) kc_58_175 rfl rfl ?_
        refine xi_iload (pc' := 178) (x := x4) kc_58_176 rfl rfl ?_
        by_cases c16 : 0 ≤ x4.toInt
        · refine xi_ift (pc' := 185) kc_58_178 rfl (xc_ge_t (X := x4.toInt) (Y := 0) rfl (by decide) (by omega)) ?_
          refine xi_iload (pc' := 187) (x := x4) kc_58_185 rfl rfl ?_
          obtain ⟨y17, A17, hy17, ry17⟩ := xk_arr K.1 xD_155
          obtain ⟨y18, s18, hy18, ry18⟩ := xj_set (v := x4) hy17 ry17 x3 (by first | omega | decide) (by first | omega | decide)
          refine xi_iastore (pc' := 188) (x' := y18) kc_58_187 rfl A17 rfl (xi_in (by omega) (by rw [hy17]; omega)) s18 (fun hh18 eh18 => ?_)
          have K19 := xk_pa K (xk_wa (by decide +kernel)) xD_155 hy18 ry18 eh18
          obtain ⟨v20, ev20⟩ : ∃ q : Int32, x3 + (-1) = q := ⟨_, rfl⟩
          have zv20 : v20.toInt = (x3.toInt + (-1)) := by rw [← ev20]; exact (xz_add (X := x3.toInt) (Y := (-1)) rfl (by decide) (by omega) (by omega)).trans (by omega)
          refine xi_iinc (pc' := 191) (x := x3) (v := v20) (lv' := [(3, .int v20), (0, .ref 115), (2, .int x2), (4, .int x4), (5, .int 27), (6, .int 3)]) kc_58_188 rfl rfl ev20 rfl (xm_lt ml_58 rfl) ?_
          refine xi_goto (pc' := 48) kc_58_191 rfl ?_
          refine xw_lv (b := [(0, .ref 115), (2, .int x2), (3, .int v20)]) (lvS_cons (lvS_cons (lvS_cons (lvS_nil (show ([3, 0, 2, 4, 5, 6] : List Nat).Nodup by decide)) rfl) rfl) rfl) ?_
          exact i9 x2 v20 hh18 (by omega) (by omega) K19 (by omega)
        · refine xi_iff (pc' := 181) kc_58_178 rfl (xc_ge_f (X := x4.toInt) (Y := 0) rfl (by decide) (by omega)) ?_
          refine xi_iconst (pc' := 182) (v := 0) kc_58_181 rfl rfl ?_
          refine xi_goto (pc' := 187) kc_58_182 rfl ?_
          obtain ⟨y21, A21, hy21, ry21⟩ := xk_arr K.1 xD_155
          obtain ⟨y22, s22, hy22, ry22⟩ := xj_set (v := 0) hy21 ry21 x3 (by first | omega | decide) (by first | omega | decide)
          refine xi_iastore (pc' := 188) (x' := y22) kc_58_187 rfl A21 rfl (xi_in (by omega) (by rw [hy21]; omega)) s22 (fun hh22 eh22 => ?_)
          have K23 := xk_pa K (xk_wa (by decide +kernel)) xD_155 hy22 ry22 eh22
          obtain ⟨v24, ev24⟩ : ∃ q : Int32, x3 + (-1) = q := ⟨_, rfl⟩
          have zv24 : v24.toInt = (x3.toInt + (-1)) := by rw [← ev24]; exact (xz_add (X := x3.toInt) (Y := (-1)) rfl (by decide) (by omega) (by omega)).trans (by omega)
          refine xi_iinc (pc' := 191) (x := x3) (v := v24) (lv' := [(3, .int v24), (0, .ref 115), (2, .int x2), (4, .int x4), (5, .int 27), (6, .int 3)]) kc_58_188 rfl rfl ev24 rfl (xm_lt ml_58 rfl) ?_
          refine xi_goto (pc' := 48) kc_58_191 rfl ?_
          refine xw_lv (b := [(0, .ref 115), (2, .int x2), (3, .int v24)]) (lvS_cons (lvS_cons (lvS_cons (lvS_nil (show ([3, 0, 2, 4, 5, 6] : List Nat).Nodup by decide)) rfl) rfl) rfl) ?_
          exact i9 x2 v24 hh22 (by omega) (by omega) K23 (by omega)
      · refine xi_cmf (pc' := 71) kc_58_68 rfl (xc_ge_f (X := 3) (Y := u10.toInt) (by decide) rfl (by omega)) ?_
        refine xi_iload_n (pc' := 72) (x := x3) kc_58_71 rfl rfl ?_
        refine xi_iload (pc' := 74) (x := 27) kc_58_72 rfl rfl ?_
        obtain ⟨v25, ev25⟩ : ∃ q : Int32, x3 / 27 = q := ⟨_, rfl⟩
        have dv25 : v25.toInt = x3.toInt / 27 := by rw [← ev25]; exact xz_dive (X := x3.toInt) (Y := 27) rfl (by decide) (by omega) (by decide)
        have bv25 : 0 ≤ v25.toInt ∧ v25.toInt ≤ 242 := by omega
        refine xi_idiv (pc' := 75) (v := v25) kc_58_74 rfl ev25 (by decide) ?_
        refine xi_iconst (pc' := 76) (v := 3) kc_58_75 rfl rfl ?_
        obtain ⟨v26, ev26⟩ : ∃ q : Int32, v25 - v25 / 3 * 3 = q := ⟨_, rfl⟩
        have dv26 : v26.toInt = v25.toInt % 3 := by rw [← ev26]; exact xz_reme (X := v25.toInt) (Y := 3) rfl (by decide) (by omega) (by decide)
        have bv26 : 0 ≤ v26.toInt ∧ v26.toInt ≤ 2 := by omega
        refine xi_irem (pc' := 77) (v := v26) kc_58_76 rfl ev26 (by decide) ?_
        by_cases c27 : v26.toInt = 0
        · refine xi_iff (pc' := 80) kc_58_77 rfl (xc_ne_f (X := v26.toInt) (Y := 0) rfl (by decide) (by omega)) ?_
          refine xi_aload_n (pc' := 81) (x := 115) kc_58_80 rfl rfl ?_
          refine xi_iload_n (pc' := 82) (x := x3) kc_58_81 rfl rfl ?_
          refine xi_iload (pc' := 84) (x := 3) kc_58_82 rfl rfl ?_
          refine xi_virtual (mj := 59) (as := [.int x3, .int 3]) (st1 := []) (lv0 := [(0, .ref 115), (1, .int x3), (2, .int 3)]) kc_58_84 rfl rfl rfl rfl rfl A14 (Nat.le_of_ble_eq_true rfl) (hJ _ _ _ _ (by decide)) (xm_le ml_59 rfl) rfl ?_
          have zc3 : (3 : Int32).toInt = 3 := by decide
          refine mt_59_0 hJ hov1 hov2 (d := d + 3) (x1 := x3) (x2 := 3) K.1 (by first | omega | decide) (by first | omega | decide) (fun r28 hh29 br28 K30 => ?_)
          have K31 := xk_tr K K30 (xsb_ok _ _ (by decide +kernel))
          obtain ⟨u32, u33, u34, u35, u36, u37, u38, u39, u40, u41, u42, u43, u44, bu32, bu33, bu34, bu35, bu36, bu37, bu38, bu39, bu40, bu41, bu42, bu43, bu44, A45⟩ := xq_115 K31.1
          have e46 : u2 = u33 := xk_eqi (q := 1) K30 (by decide +kernel) A14 A45 rfl rfl
          subst e46
          have e47 : u5 = u36 := xk_eqi (q := 23) K30 (by decide +kernel) A14 A45 rfl rfl
          subst e47
          have e48 : u8 = u39 := xk_eqi (q := 34) K30 (by decide +kernel) A14 A45 rfl rfl
          subst e48
          have e49 : u6 = u37 := xk_eqi (q := 32) K30 (by decide +kernel) A14 A45 rfl rfl
          subst e49
          show xw J ov (d + 7) 58 (87, [(0, .ref 115), (2, .int x2), (3, .int x3), (4, .int x4), (5, .int 27), (6, .int 3)], [.int r28], hh29) _
          by_cases c50 : r28.toInt = 0
          · refine xi_ift (pc' := 159) kc_58_87 rfl (xc_eq_t (X := r28.toInt) (Y := 0) rfl (by decide) (by omega)) ?_
            refine xi_iload (pc' := 161) (x := 27) kc_58_159 rfl rfl ?_
            refine xi_iconst (pc' := 162) (v := 3) kc_58_161 rfl rfl ?_
            refine xi_imul (pc' := 163) (v := 81) kc_58_162 rfl rfl ?_
            refine xi_istore (pc' := 165) (lv' := [(5, .int 81), (0, .ref 115), (2, .int x2), (3, .int x3), (4, .int x4), (6, .int 3)]) kc_58_163 rfl rfl (xm_lt ml_58 rfl) ?_
            refine xi_iinc (pc' := 168) (x := 3) (v := 4) (lv' := [(6, .int 4), (5, .int 81), (0, .ref 115), (2, .int x2), (3, .int x3), (4, .int x4)]) kc_58_165 rfl rfl rfl rfl (xm_lt ml_58 rfl) ?_
            refine xi_goto (pc' := 62) kc_58_168 rfl ?_
            have zc4 : (4 : Int32).toInt = 4 := by decide
            have zc81 : (81 : Int32).toInt = 81 := by decide
            refine xw_lv (b := [(0, .ref 115), (2, .int x2), (3, .int x3), (4, .int x4), (5, .int 81), (6, .int 4)]) (lvS_cons (lvS_cons (lvS_cons (lvS_cons (lvS_cons (lvS_cons (lvS_nil (show ([6, 5, 0, 2, 3, 4] : List Nat).Nodup by decide)) rfl) rfl) rfl) rfl) rfl) rfl) ?_
            exact i14 x2 x3 x4 hh29 (by omega) (by omega) K31 (by omega)
          · refine xi_iff (pc' := 90) kc_58_87 rfl (xc_eq_f (X := r28.toInt) (Y := 0) rfl (by decide) (by omega)) ?_
            refine xi_aload_n (pc' := 91) (x := 115) kc_58_90 rfl rfl ?_
            refine xi_getfield (pc' := 94) (v := .ref 155) kc_58_91 rfl rfl rfl A45 rfl ?_
            refine xi_iload_n (pc' := 95) (x := x3) kc_58_94 rfl rfl ?_
            refine xi_iload (pc' := 97) (x := 27) kc_58_95 rfl rfl ?_
            obtain ⟨v51, ev51⟩ : ∃ q : Int32, x3 + 27 = q := ⟨_, rfl⟩
            have zv51 : v51.toInt = (x3.toInt + 27) := by rw [← ev51]; exact (xz_add (X := x3.toInt) (Y := 27) rfl (by decide) (by omega) (by omega)).trans (by omega)
            refine xi_iadd (pc' := 98) (v := v51) kc_58_97 rfl ev51 ?_
            have t52 : (-27) ≤ x3.toInt ∧ x3.toInt ≤ 6533 := by omega
            obtain ⟨y53, A53, hy53, ry53⟩ := xk_arr K31.1 xD_155
            obtain ⟨v54, ev54, bv54, dv54⟩ := xj_get hy53 ry53 (i := v51) (by rw [zv51]; omega) (by rw [zv51]; omega)
            refine xi_iaload (pc' := 99) (v := v54) kc_58_98 rfl A53 (by decide) rfl (xi_in (by rw [zv51]; omega) (by rw [hy53]; rw [zv51]; omega)) ev54 ?_
            refine xi_istore (pc' := 101) (lv' := [(7, .int v54), (0, .ref 115), (2, .int x2), (3, .int x3), (4, .int x4), (5, .int 27), (6, .int 3)]) kc_58_99 rfl rfl (xm_lt ml_58 rfl) ?_
            refine xi_aload_n (pc' := 102) (x := 115) kc_58_101 rfl rfl ?_
            refine xi_getfield (pc' := 105) (v := .ref 155) kc_58_102 rfl rfl rfl A45 rfl ?_
            refine xi_iload_n (pc' := 106) (x := x3) kc_58_105 rfl rfl ?_
            refine xi_iconst (pc' := 107) (v := 2) kc_58_106 rfl rfl ?_
            refine xi_iload (pc' := 109) (x := 27) kc_58_107 rfl rfl ?_
            refine xi_imul (pc' := 110) (v := 54) kc_58_109 rfl rfl ?_
            obtain ⟨v55, ev55⟩ : ∃ q : Int32, x3 + 54 = q := ⟨_, rfl⟩
            have zv55 : v55.toInt = (x3.toInt + 54) := by rw [← ev55]; exact (xz_add (X := x3.toInt) (Y := 54) rfl (by decide) (by omega) (by omega)).trans (by omega)
            refine xi_iadd (pc' := 111) (v := v55) kc_58_110 rfl ev55 ?_
            have t56 : (-54) ≤ x3.toInt ∧ x3.toInt ≤ 6506 := by omega
            obtain ⟨v57, ev57, bv57, dv57⟩ := xj_get hy53 ry53 (i := v55) (by rw [zv55]; omega) (by rw [zv55]; omega)
            refine xi_iaload (pc' := 112) (v := v57) kc_58_111 rfl A53 (by decide) rfl (xi_in (by rw [zv55]; omega) (by rw [hy53]; rw [zv55]; omega)) ev57 ?_
            refine xi_istore (pc' := 114) (lv' := [(8, .int v57), (7, .int v54), (0, .ref 115), (2, .int x2), (3, .int x3), (4, .int x4), (5, .int 27), (6, .int 3)]) kc_58_112 rfl rfl (xm_lt ml_58 rfl) ?_
            refine xi_aload_n (pc' := 115) (x := 115) kc_58_114 rfl rfl ?_
            refine xi_getfield (pc' := 118) (v := .ref 153) kc_58_115 rfl rfl rfl A45 rfl ?_
            refine xi_iload (pc' := 120) (x := 3) kc_58_118 rfl rfl ?_
            obtain ⟨y58, A58, hy58, ry58⟩ := xk_arr K31.1 xD_153
            obtain ⟨v59, ev59, bv59, dv59⟩ := xj_get hy58 ry58 (i := 3) (by decide) (by decide)
            refine xi_iaload (pc' := 121) (v := v59) kc_58_120 rfl A58 (by decide) rfl (xi_in (by decide) (by rw [hy58]; decide)) ev59 ?_
            refine xi_iload (pc' := 123) (x := v54) kc_58_121 rfl rfl ?_
            refine xi_iload (pc' := 125) (x := v57) kc_58_123 rfl rfl ?_
            by_cases c60 : v54.toInt ≤ v57.toInt
            · refine xi_cmt (pc' := 133) kc_58_125 rfl (xc_le_t (X := v54.toInt) (Y := v57.toInt) rfl rfl (by omega)) ?_
              refine xi_iload (pc' := 135) (x := v57) kc_58_133 rfl rfl ?_
              obtain ⟨v61, ev61⟩ : ∃ q : Int32, (v59 : Int32) + v57 = q := ⟨_, rfl⟩
              have rv61 := xc_rng v61
              refine xi_iadd (pc' := 136) (v := v61) kc_58_135 rfl ev61 ?_
              refine xi_istore (pc' := 138) (lv' := [(9, .int v61), (8, .int v57), (7, .int v54), (0, .ref 115), (2, .int x2), (3, .int x3), (4, .int x4), (5, .int 27), (6, .int 3)]) kc_58_136 rfl rfl (xm_lt ml_58 rfl) ?_
              refine xi_iload (pc' := 140) (x := x4) kc_58_138 rfl rfl ?_
              by_cases c62 : x4.toInt < 0
              · refine xi_ift (pc' := 150) kc_58_140 rfl (xc_lt_t (X := x4.toInt) (Y := 0) rfl (by decide) (by omega)) ?_
                refine xi_iload (pc' := 152) (x := v61) kc_58_150 rfl rfl ?_
                refine xi_goto (pc' := 157) kc_58_152 rfl ?_
                refine xi_istore (pc' := 159) (lv' := [(4, .int v61), (9, .int v61), (8, .int v57), (7, .int v54), (0, .ref 115), (2, .int x2), (3, .int x3), (5, .int 27), (6, .int 3)]) kc_58_157 rfl rfl (xm_lt ml_58 rfl) ?_
                refine xi_iload (pc' := 161) (x := 27) kc_58_159 rfl rfl ?_
                refine xi_iconst (pc' := 162) (v := 3) kc_58_161 rfl rfl ?_
                refine xi_imul (pc' := 163) (v := 81) kc_58_162 rfl rfl ?_
                refine xi_istore (pc' := 165) (lv' := [(5, .int 81), (4, .int v61), (9, .int v61), (8, .int v57), (7, .int v54), (0, .ref 115), (2, .int x2), (3, .int x3), (6, .int 3)]) kc_58_163 rfl rfl (xm_lt ml_58 rfl) ?_
                refine xi_iinc (pc' := 168) (x := 3) (v := 4) (lv' := [(6, .int 4), (5, .int 81), (4, .int v61), (9, .int v61), (8, .int v57), (7, .int v54), (0, .ref 115), (2, .int x2), (3, .int x3)]) kc_58_165 rfl rfl rfl rfl (xm_lt ml_58 rfl) ?_
                refine xi_goto (pc' := 62) kc_58_168 rfl ?_
                have zc4 : (4 : Int32).toInt = 4 := by decide
                have zc81 : (81 : Int32).toInt = 81 := by decide
                refine xw_lv (b := [(0, .ref 115), (2, .int x2), (3, .int x3), (4, .int v61), (5, .int 81), (6, .int 4)]) (lvS_cons (lvS_cons (lvS_cons (lvS_cons (lvS_cons (lvS_cons (lvS_nil (show ([6, 5, 4, 9, 8, 7, 0, 2, 3] : List Nat).Nodup by decide)) rfl) rfl) rfl) rfl) rfl) rfl) ?_
                exact i14 x2 x3 v61 hh29 (by omega) (by omega) K31 (by omega)
              · refine xi_iff (pc' := 143) kc_58_140 rfl (xc_lt_f (X := x4.toInt) (Y := 0) rfl (by decide) (by omega)) ?_
                refine xi_iload (pc' := 145) (x := v61) kc_58_143 rfl rfl ?_
                refine xi_iload (pc' := 147) (x := x4) kc_58_145 rfl rfl ?_
                by_cases c63 : x4.toInt ≤ v61.toInt
                · refine xi_cmt (pc' := 155) kc_58_147 rfl (xc_ge_t (X := v61.toInt) (Y := x4.toInt) rfl rfl (by omega)) ?_
                  refine xi_iload (pc' := 157) (x := x4) kc_58_155 rfl rfl ?_
                  refine xi_istore (pc' := 159) (lv' := [(4, .int x4), (9, .int v61), (8, .int v57), (7, .int v54), (0, .ref 115), (2, .int x2), (3, .int x3), (5, .int 27), (6, .int 3)]) kc_58_157 rfl rfl (xm_lt ml_58 rfl) ?_
                  refine xi_iload (pc' := 161) (x := 27) kc_58_159 rfl rfl ?_
                  refine xi_iconst (pc' := 162) (v := 3) kc_58_161 rfl rfl ?_
                  refine xi_imul (pc' := 163) (v := 81) kc_58_162 rfl rfl ?_
                  refine xi_istore (pc' := 165) (lv' := [(5, .int 81), (4, .int x4), (9, .int v61), (8, .int v57), (7, .int v54), (0, .ref 115), (2, .int x2), (3, .int x3), (6, .int 3)]) kc_58_163 rfl rfl (xm_lt ml_58 rfl) ?_
                  refine xi_iinc (pc' := 168) (x := 3) (v := 4) (lv' := [(6, .int 4), (5, .int 81), (4, .int x4), (9, .int v61), (8, .int v57), (7, .int v54), (0, .ref 115), (2, .int x2), (3, .int x3)]) kc_58_165 rfl rfl rfl rfl (xm_lt ml_58 rfl) ?_
                  refine xi_goto (pc' := 62) kc_58_168 rfl ?_
                  have zc4 : (4 : Int32).toInt = 4 := by decide
                  have zc81 : (81 : Int32).toInt = 81 := by decide
                  refine xw_lv (b := [(0, .ref 115), (2, .int x2), (3, .int x3), (4, .int x4), (5, .int 81), (6, .int 4)]) (lvS_cons (lvS_cons (lvS_cons (lvS_cons (lvS_cons (lvS_cons (lvS_nil (show ([6, 5, 4, 9, 8, 7, 0, 2, 3] : List Nat).Nodup by decide)) rfl) rfl) rfl) rfl) rfl) rfl) ?_
                  exact i14 x2 x3 x4 hh29 (by omega) (by omega) K31 (by omega)
                · refine xi_cmf (pc' := 150) kc_58_147 rfl (xc_ge_f (X := v61.toInt) (Y := x4.toInt) rfl rfl (by omega)) ?_
                  refine xi_iload (pc' := 152) (x := v61) kc_58_150 rfl rfl ?_
                  refine xi_goto (pc' := 157) kc_58_152 rfl ?_
                  refine xi_istore (pc' := 159) (lv' := [(4, .int v61), (9, .int v61), (8, .int v57), (7, .int v54), (0, .ref 115), (2, .int x2), (3, .int x3), (5, .int 27), (6, .int 3)]) kc_58_157 rfl rfl (xm_lt ml_58 rfl) ?_
                  refine xi_iload (pc' := 161) (x := 27) kc_58_159 rfl rfl ?_
                  refine xi_iconst (pc' := 162) (v := 3) kc_58_161 rfl rfl ?_
                  refine xi_imul (pc' := 163) (v := 81) kc_58_162 rfl rfl ?_
                  refine xi_istore (pc' := 165) (lv' := [(5, .int 81), (4, .int v61), (9, .int v61), (8, .int v57), (7, .int v54), (0, .ref 115), (2, .int x2), (3, .int x3), (6, .int 3)]) kc_58_163 rfl rfl (xm_lt ml_58 rfl) ?_
                  refine xi_iinc (pc' := 168) (x := 3) (v := 4) (lv' := [(6, .int 4), (5, .int 81), (4, .int v61), (9, .int v61), (8, .int v57), (7, .int v54), (0, .ref 115), (2, .int x2), (3, .int x3)]) kc_58_165 rfl rfl rfl rfl (xm_lt ml_58 rfl) ?_
                  refine xi_goto (pc' := 62) kc_58_168 rfl ?_
                  have zc4 : (4 : Int32).toInt = 4 := by decide
                  have zc81 : (81 : Int32).toInt = 81 := by decide
                  refine xw_lv (b := [(0, .ref 115), (2, .int x2), (3, .int x3), (4, .int v61), (5, .int 81), (6, .int 4)]) (lvS_cons (lvS_cons (lvS_cons (lvS_cons (lvS_cons (lvS_cons (lvS_nil (show ([6, 5, 4, 9, 8, 7, 0, 2, 3] : List Nat).Nodup by decide)) rfl) rfl) rfl) rfl) rfl) rfl) ?_
                  exact i14 x2 x3 v61 hh29 (by omega) (by omega) K31 (by omega)
            · refine xi_cmf (pc' := 128) kc_58_125 rfl (xc_le_f (X := v54.toInt) (Y := v57.toInt) rfl rfl (by omega)) ?_
              refine xi_iload (pc' := 130) (x := v54) kc_58_128 rfl rfl ?_
              refine xi_goto (pc' := 135) kc_58_130 rfl ?_
              obtain ⟨v64, ev64⟩ : ∃ q : Int32, (v59 : Int32) + v54 = q := ⟨_, rfl⟩
              have rv64 := xc_rng v64
              refine xi_iadd (pc' := 136) (v := v64) kc_58_135 rfl ev64 ?_
              refine xi_istore (pc' := 138) (lv' := [(9, .int v64), (8, .int v57), (7, .int v54), (0, .ref 115), (2, .int x2), (3, .int x3), (4, .int x4), (5, .int 27), (6, .int 3)]) kc_58_136 rfl rfl (xm_lt ml_58 rfl) ?_
              refine xi_iload (pc' := 140) (x := x4) kc_58_138 rfl rfl ?_
              by_cases c65 : x4.toInt < 0
              · refine xi_ift (pc' := 150) kc_58_140 rfl (xc_lt_t (X := x4.toInt) (Y := 0) rfl (by decide) (by omega)) ?_
                refine xi_iload (pc' := 152) (x := v64) kc_58_150 rfl rfl ?_
                refine xi_goto (pc' := 157) kc_58_152 rfl ?_
                refine xi_istore (pc' := 159) (lv' := [(4, .int v64), (9, .int v64), (8, .int v57), (7, .int v54), (0, .ref 115), (2, .int x2), (3, .int x3), (5, .int 27), (6, .int 3)]) kc_58_157 rfl rfl (xm_lt ml_58 rfl) ?_
                refine xi_iload (pc' := 161) (x := 27) kc_58_159 rfl rfl ?_
                refine xi_iconst (pc' := 162) (v := 3) kc_58_161 rfl rfl ?_
                refine xi_imul (pc' := 163) (v := 81) kc_58_162 rfl rfl ?_
                refine xi_istore (pc' := 165) (lv' := [(5, .int 81), (4, .int v64), (9, .int v64), (8, .int v57), (7, .int v54), (0, .ref 115), (2, .int x2), (3, .int x3), (6, .int 3)]) kc_58_163 rfl rfl (xm_lt ml_58 rfl) ?_
                refine xi_iinc (pc' := 168) (x := 3) (v := 4) (lv' := [(6, .int 4), (5, .int 81), (4, .int v64), (9, .int v64), (8, .int v57), (7, .int v54), (0, .ref 115), (2, .int x2), (3, .int x3)]) kc_58_165 rfl rfl rfl rfl (xm_lt ml_58 rfl) ?_
                refine xi_goto (pc' := 62) kc_58_168 rfl ?_
                have zc4 : (4 : Int32).toInt = 4 := by decide
                have zc81 : (81 : Int32).toInt = 81 := by decide
                refine xw_lv (b := [(0, .ref 115), (2, .int x2), (3, .int x3), (4, .int v64), (5, .int 81), (6, .int 4)]) (lvS_cons (lvS_cons (lvS_cons (lvS_cons (lvS_cons (lvS_cons (lvS_nil (show ([6, 5, 4, 9, 8, 7, 0, 2, 3] : List Nat).Nodup by decide)) rfl) rfl) rfl) rfl) rfl) rfl) ?_
                exact i14 x2 x3 v64 hh29 (by omega) (by omega) K31 (by omega)
              · refine xi_iff (pc' := 143) kc_58_140 rfl (xc_lt_f (X := x4.toInt) (Y := 0) rfl (by decide) (by omega)) ?_
                refine xi_iload (pc' := 145) (x := v64) kc_58_143 rfl rfl ?_
                refine xi_iload (pc' := 147) (x := x4) kc_58_145 rfl rfl ?_
                by_cases c66 : x4.toInt ≤ v64.toInt
                · refine xi_cmt (pc' := 155) kc_58_147 rfl (xc_ge_t (X := v64.toInt) (Y := x4.toInt) rfl rfl (by omega)) ?_
                  refine xi_iload (pc' := 157) (x := x4) kc_58_155 rfl rfl ?_
                  refine xi_istore (pc' := 159) (lv' := [(4, .int x4), (9, .int v64), (8, .int v57), (7, .int v54), (0, .ref 115), (2, .int x2), (3, .int x3), (5, .int 27), (6, .int 3)]) kc_58_157 rfl rfl (xm_lt ml_58 rfl) ?_
                  refine xi_iload (pc' := 161) (x := 27) kc_58_159 rfl rfl ?_
                  refine xi_iconst (pc' := 162) (v := 3) kc_58_161 rfl rfl ?_
                  refine xi_imul (pc' := 163) (v := 81) kc_58_162 rfl rfl ?_
                  refine xi_istore (pc' := 165) (lv' := [(5, .int 81), (4, .int x4), (9, .int v64), (8, .int v57), (7, .int v54), (0, .ref 115), (2, .int x2), (3, .int x3), (6, .int 3)]) kc_58_163 rfl rfl (xm_lt ml_58 rfl) ?_
                  refine xi_iinc (pc' := 168) (x := 3) (v := 4) (lv' := [(6, .int 4), (5, .int 81), (4, .int x4), (9, .int v64), (8, .int v57), (7, .int v54), (0, .ref 115), (2, .int x2), (3, .int x3)]) kc_58_165 rfl rfl rfl rfl (xm_lt ml_58 rfl) ?_
                  refine xi_goto (pc' := 62) kc_58_168 rfl ?_
                  have zc4 : (4 : Int32).toInt = 4 := by decide
                  have zc81 : (81 : Int32).toInt = 81 := by decide
                  refine xw_lv (b := [(0, .ref 115), (2, .int x2), (3, .int x3), (4, .int x4), (5, .int 81), (6, .int 4)]) (lvS_cons (lvS_cons (lvS_cons (lvS_cons (lvS_cons (lvS_cons (lvS_nil (show ([6, 5, 4, 9, 8, 7, 0, 2, 3] : List Nat).Nodup by decide)) rfl) rfl) rfl) rfl) rfl) rfl) ?_
                  exact i14 x2 x3 x4 hh29 (by omega) (by omega) K31 (by omega)
                · refine xi_cmf (pc' := 150) kc_58_147 rfl (xc_ge_f (X := v64.toInt) (Y := x4.toInt) rfl rfl (by omega)) ?_
                  refine xi_iload (pc' := 152) (x := v64) kc_58_150 rfl rfl ?_
                  refine xi_goto (pc' := 157) kc_58_152 rfl ?_
                  refine xi_istore (pc' := 159) (lv' := [(4, .int v64), (9, .int v64), (8, .int v57), (7, .int v54), (0, .ref 115), (2, .int x2), (3, .int x3), (5, .int 27), (6, .int 3)]) kc_58_157 rfl rfl (xm_lt ml_58 rfl) ?_
                  refine xi_iload (pc' := 161) (x := 27) kc_58_159 rfl rfl ?_
                  refine xi_iconst (pc' := 162) (v := 3) kc_58_161 rfl rfl ?_
                  refine xi_imul (pc' := 163) (v := 81) kc_58_162 rfl rfl ?_
                  refine xi_istore (pc' := 165) (lv' := [(5, .int 81), (4, .int v64), (9, .int v64), (8, .int v57), (7, .int v54), (0, .ref 115), (2, .int x2), (3, .int x3), (6, .int 3)]) kc_58_163 rfl rfl (xm_lt ml_58 rfl) ?_
                  refine xi_iinc (pc' := 168) (x := 3) (v := 4) (lv' := [(6, .int 4), (5, .int 81), (4, .int v64), (9, .int v64), (8, .int v57), (7, .int v54), (0, .ref 115), (2, .int x2), (3, .int x3)]) kc_58_165 rfl rfl rfl rfl (xm_lt ml_58 rfl) ?_
                  refine xi_goto (pc' := 62) kc_58_168 rfl ?_
                  have zc4 : (4 : Int32).toInt = 4 := by decide
                  have zc81 : (81 : Int32).toInt = 81 := by decide
                  refine xw_lv (b := [(0, .ref 115), (2, .int x2), (3, .int x3), (4, .int v64), (5, .int 81), (6, .int 4)]) (lvS_cons (lvS_cons (lvS_cons (lvS_cons (lvS_cons (lvS_cons (lvS_nil (show ([6, 5, 4, 9, 8, 7, 0, 2, 3] : List Nat).Nodup by decide)) rfl) rfl) rfl) rfl) rfl) rfl) ?_
                  exact i14 x2 x3 v64 hh29 (by omega) (by omega) K31 (by omega)
        · refine xi_ift (pc' := 159) kc_58_77 rfl (xc_ne_t (X := v26.toInt) (Y := 0) rfl (by decide) (by omega)) ?_
          refine xi_iload (pc' := 161) (x := 27) kc_58_159 rfl rfl ?_
          refine xi_iconst (pc' := 162) (v := 3) kc_58_161 rfl rfl ?_
          refine xi_imul (pc' := 163) (v := 81) kc_58_162 rfl rfl ?_
          refine xi_istore (pc' := 165) (lv' := [(5, .int 81), (0, .ref 115), (2, .int x2), (3, .int x3), (4, .int x4), (6, .int 3)]) kc_58_163 rfl rfl (xm_lt ml_58 rfl) ?_
          refine xi_iinc (pc' := 168) (x := 3) (v := 4) (lv' := [(6, .int 4), (5, .int 81), (0, .ref 115), (2, .int x2), (3, .int x3), (4, .int x4)]) kc_58_165 rfl rfl rfl rfl (xm_lt ml_58 rfl) ?_
          refine xi_goto (pc' := 62) kc_58_168 rfl ?_
          have zc4 : (4 : Int32).toInt = 4 := by decide
          have zc81 : (81 : Int32).toInt = 81 := by decide
          refine xw_lv (b := [(0, .ref 115), (2, .int x2), (3, .int x3), (4, .int x4), (5, .int 81), (6, .int 4)]) (lvS_cons (lvS_cons (lvS_cons (lvS_cons (lvS_cons (lvS_cons (lvS_nil (show ([6, 5, 0, 2, 3, 4] : List Nat).Nodup by decide)) rfl) rfl) rfl) rfl) rfl) rfl) ?_
          exact i14 x2 x3 x4 h (by omega) (by omega) K (by omega)
    · intro x2 x3 x4 h b2 b3 K hm
      have rx4 := xc_rng x4
      refine xi_iload (pc' := 64) (x := 4) kc_58_62 rfl rfl ?_
      refine xi_aload_n (pc' := 65) (x := 115) kc_58_64 rfl rfl ?_
      obtain ⟨u1, u2, u3, u4, u5, u6, u7, u8, u9, u10, u11, u12, u13, bu1, bu2, bu3, bu4, bu5, bu6, bu7, bu8, bu9, bu10, bu11, bu12, bu13, A14⟩ := xq_115 K.1
      refine xi_getfield (pc' := 68) (v := .int u10) kc_58_65 rfl rfl rfl A14 rfl ?_
      by_cases c15 : u10.toInt ≤ 4
      · refine xi_cmt (pc' := 171) kc_58_68 rfl (xc_ge_t (X := 4) (Y := u10.toInt) (by decide) rfl (by omega)) ?_
        refine xi_aload_n (pc' := 172) (x := 115) kc_58_171 rfl rfl ?_
        refine xi_getfield (pc' := 175) (v := .ref 155) kc_58_172 rfl rfl rfl A14 rfl ?_
        refine xi_iload_n (pc' := 176) (x := x3) kc_58_175 rfl rfl ?_
        refine xi_iload (pc' := 178) (x := x4) kc_58_176 rfl rfl ?_
        by_cases c16 : 0 ≤ x4.toInt
        · refine xi_ift (pc' := 185) kc_58_178 rfl (xc_ge_t (X := x4.toInt) (Y := 0) rfl (by decide) (by omega)) ?_
          refine xi_iload (pc' := 187) (x := x4) kc_58_185 rfl rfl ?_
          obtain ⟨y17, A17, hy17, ry17⟩ := xk_arr K.1 xD_155
          obtain ⟨y18, s18, hy18, ry18⟩ := xj_set (v := x4) hy17 ry17 x3 (by first | omega | decide) (by first | omega | decide)
          refine xi_iastore (pc' := 188) (x' := y18) kc_58_187 rfl A17 rfl (xi_in (by omega) (by rw [hy17]; omega)) s18 (fun hh18 eh18 => ?_)
          have K19 := xk_pa K (xk_wa (by decide +kernel)) xD_155 hy18 ry18 eh18
          obtain ⟨v20, ev20⟩ : ∃ q : Int32, x3 + (-1) = q := ⟨_, rfl⟩
          have zv20 : v20.toInt = (x3.toInt + (-1)) := by rw [← ev20]; exact (xz_add (X := x3.toInt) (Y := (-1)) rfl (by decide) (by omega) (by omega)).trans (by omega)
          refine xi_iinc (pc' := 191) (x := x3) (v := v20) (lv' := [(3, .int v20), (0, .ref 115), (2, .int x2), (4, .int x4), (5, .int 81), (6, .int 4)]) kc_58_188 rfl rfl ev20 rfl (xm_lt ml_58 rfl) ?_
          refine xi_goto (pc' := 48) kc_58_191 rfl ?_
          refine xw_lv (b := [(0, .ref 115), (2, .int x2), (3, .int v20)]) (lvS_cons (lvS_cons (lvS_cons (lvS_nil (show ([3, 0, 2, 4, 5, 6] : List Nat).Nodup by decide)) rfl) rfl) rfl) ?_
          exact i9 x2 v20 hh18 (by omega) (by omega) K19 (by omega)
        · refine xi_iff (pc' := 181) kc_58_178 rfl (xc_ge_f (X := x4.toInt) (Y := 0) rfl (by decide) (by omega)) ?_
          refine xi_iconst (pc' := 182) (v := 0) kc_58_181 rfl rfl ?_
          refine xi_goto (pc' := 187) kc_58_182 rfl ?_
          obtain ⟨y21, A21, hy21, ry21⟩ := xk_arr K.1 xD_155
          obtain ⟨y22, s22, hy22, ry22⟩ := xj_set (v := 0) hy21 ry21 x3 (by first | omega | decide) (by first | omega | decide)
          refine xi_iastore (pc' := 188) (x' := y22) kc_58_187 rfl A21 rfl (xi_in (by omega) (by rw [hy21]; omega)) s22 (fun hh22 eh22 => ?_)
          have K23 := xk_pa K (xk_wa (by decide +kernel)) xD_155 hy22 ry22 eh22
          obtain ⟨v24, ev24⟩ : ∃ q : Int32, x3 + (-1) = q := ⟨_, rfl⟩
          have zv24 : v24.toInt = (x3.toInt + (-1)) := by rw [← ev24]; exact (xz_add (X := x3.toInt) (Y := (-1)) rfl (by decide) (by omega) (by omega)).trans (by omega)
          refine xi_iinc (pc' := 191) (x := x3) (v := v24) (lv' := [(3, .int v24), (0, .ref 115), (2, .int x2), (4, .int x4), (5, .int 81), (6, .int 4)]) kc_58_188 rfl rfl ev24 rfl (xm_lt ml_58 rfl) ?_
          refine xi_goto (pc' := 48) kc_58_191 rfl ?_
          refine xw_lv (b := [(0, .ref 115), (2, .int x2), (3, .int v24)]) (lvS_cons (lvS_cons (lvS_cons (lvS_nil (show ([3, 0, 2, 4, 5, 6] : List Nat).Nodup by decide)) rfl) rfl) rfl) ?_
          exact i9 x2 v24 hh22 (by omega) (by omega) K23 (by omega)
      · refine xi_cmf (pc' := 71) kc_58_68 rfl (xc_ge_f (X := 4) (Y := u10.toInt) (by decide) rfl (by omega)) ?_
        refine xi_iload_n (pc' := 72) (x := x3) kc_58_71 rfl rfl ?_
        refine xi_iload (pc' := 74) (x := 81) kc_58_72 rfl rfl ?_
        obtain ⟨v25, ev25⟩ : ∃ q : Int32, x3 / 81 = q := ⟨_, rfl⟩
        have dv25 : v25.toInt = x3.toInt / 81 := by rw [← ev25]; exact xz_dive (X := x3.toInt) (Y := 81) rfl (by decide) (by omega) (by decide)
        have bv25 : 0 ≤ v25.toInt ∧ v25.toInt ≤ 80 := by omega
        refine xi_idiv (pc' := 75) (v := v25) kc_58_74 rfl ev25 (by decide) ?_
        refine xi_iconst (pc' := 76) (v := 3) kc_58_75 rfl rfl ?_
        obtain ⟨v26, ev26⟩ : ∃ q : Int32, v25 - v25 / 3 * 3 = q := ⟨_, rfl⟩
        have dv26 : v26.toInt = v25.toInt % 3 := by rw [← ev26]; exact xz_reme (X := v25.toInt) (Y := 3) rfl (by decide) (by omega) (by decide)
        have bv26 : 0 ≤ v26.toInt ∧ v26.toInt ≤ 2 := by omega
        refine xi_irem (pc' := 77) (v := v26) kc_58_76 rfl ev26 (by decide) ?_
        by_cases c27 : v26.toInt = 0
        · refine xi_iff (pc' := 80) kc_58_77 rfl (xc_ne_f (X := v26.toInt) (Y := 0) rfl (by decide) (by omega)) ?_
          refine xi_aload_n (pc' := 81) (x := 115) kc_58_80 rfl rfl ?_
          refine xi_iload_n (pc' := 82) (x := x3) kc_58_81 rfl rfl ?_
          refine xi_iload (pc' := 84) (x := 4) kc_58_82 rfl rfl ?_
          refine xi_virtual (mj := 59) (as := [.int x3, .int 4]) (st1 := []) (lv0 := [(0, .ref 115), (1, .int x3), (2, .int 4)]) kc_58_84 rfl rfl rfl rfl rfl A14 (Nat.le_of_ble_eq_true rfl) (hJ _ _ _ _ (by decide)) (xm_le ml_59 rfl) rfl ?_
          have zc4 : (4 : Int32).toInt = 4 := by decide
          refine mt_59_0 hJ hov1 hov2 (d := d + 3) (x1 := x3) (x2 := 4) K.1 (by first | omega | decide) (by first | omega | decide) (fun r28 hh29 br28 K30 => ?_)
          have K31 := xk_tr K K30 (xsb_ok _ _ (by decide +kernel))
          obtain ⟨u32, u33, u34, u35, u36, u37, u38, u39, u40, u41, u42, u43, u44, bu32, bu33, bu34, bu35, bu36, bu37, bu38, bu39, bu40, bu41, bu42, bu43, bu44, A45⟩ := xq_115 K31.1
          have e46 : u2 = u33 := xk_eqi (q := 1) K30 (by decide +kernel) A14 A45 rfl rfl
          subst e46
          have e47 : u5 = u36 := xk_eqi (q := 23) K30 (by decide +kernel) A14 A45 rfl rfl
          subst e47
          have e48 : u8 = u39 := xk_eqi (q := 34) K30 (by decide +kernel) A14 A45 rfl rfl
          subst e48
          have e49 : u6 = u37 := xk_eqi (q := 32) K30 (by decide +kernel) A14 A45 rfl rfl
          subst e49
          show xw J ov (d + 7) 58 (87, [(0, .ref 115), (2, .int x2), (3, .int x3), (4, .int x4), (5, .int 81), (6, .int 4)], [.int r28], hh29) _
          by_cases c50 : r28.toInt = 0
          · refine xi_ift (pc' := 159) kc_58_87 rfl (xc_eq_t (X := r28.toInt) (Y := 0) rfl (by decide) (by omega)) ?_
            refine xi_iload (pc' := 161) (x := 81) kc_58_159 rfl rfl ?_
            refine xi_iconst (pc' := 162) (v := 3) kc_58_161 rfl rfl ?_
            refine xi_imul (pc' := 163) (v := 243) kc_58_162 rfl rfl ?_
            refine xi_istore (pc' := 165) (lv' := [(5, .int 243), (0, .ref 115), (2, .int x2), (3, .int x3), (4, .int x4), (6, .int 4)]) kc_58_163 rfl rfl (xm_lt ml_58 rfl) ?_
            refine xi_iinc (pc' := 168) (x := 4) (v := 5) (lv' := [(6, .int 5), (5, .int 243), (0, .ref 115), (2, .int x2), (3, .int x3), (4, .int x4)]) kc_58_165 rfl rfl rfl rfl (xm_lt ml_58 rfl) ?_
            refine xi_goto (pc' := 62) kc_58_168 rfl ?_
            have zc5 : (5 : Int32).toInt = 5 := by decide
            have zc243 : (243 : Int32).toInt = 243 := by decide
            refine xw_lv (b := [(0, .ref 115), (2, .int x2), (3, .int x3), (4, .int x4), (5, .int 243), (6, .int 5)]) (lvS_cons (lvS_cons (lvS_cons (lvS_cons (lvS_cons (lvS_cons (lvS_nil (show ([6, 5, 0, 2, 3, 4] : List Nat).Nodup by decide)) rfl) rfl) rfl) rfl) rfl) rfl) ?_
            exact i15 x2 x3 x4 hh29 (by omega) (by omega) K31 (by omega)
          · refine xi_iff (pc' := 90) kc_58_87 rfl (xc_eq_f (X := r28.toInt) (Y := 0) rfl (by decide) (by omega)) ?_
            refine xi_aload_n (pc' := 91) (x := 115) kc_58_90 rfl rfl ?_
            refine xi_getfield (pc' := 94) (v := .ref 155) kc_58_91 rfl rfl rfl A45 rfl ?_
            refine xi_iload_n (pc' := 95) (x := x3) kc_58_94 rfl rfl ?_
            refine xi_iload (pc' := 97) (x := 81) kc_58_95 rfl rfl ?_
            obtain ⟨v51, ev51⟩ : ∃ q : Int32, x3 + 81 = q := ⟨_, rfl⟩
            have zv51 : v51.toInt = (x3.toInt + 81) := by rw [← ev51]; exact (xz_add (X := x3.toInt) (Y := 81) rfl (by decide) (by omega) (by omega)).trans (by omega)
            refine xi_iadd (pc' := 98) (v := v51) kc_58_97 rfl ev51 ?_
            have t52 : (-81) ≤ x3.toInt ∧ x3.toInt ≤ 6479 := by omega
            obtain ⟨y53, A53, hy53, ry53⟩ := xk_arr K31.1 xD_155
            obtain ⟨v54, ev54, bv54, dv54⟩ := xj_get hy53 ry53 (i := v51) (by rw [zv51]; omega) (by rw [zv51]; omega)
            refine xi_iaload (pc' := 99) (v := v54) kc_58_98 rfl A53 (by decide) rfl (xi_in (by rw [zv51]; omega) (by rw [hy53]; rw [zv51]; omega)) ev54 ?_
            refine xi_istore (pc' := 101) (lv' := [(7, .int v54), (0, .ref 115), (2, .int x2), (3, .int x3), (4, .int x4), (5, .int 81), (6, .int 4)]) kc_58_99 rfl rfl (xm_lt ml_58 rfl) ?_
            refine xi_aload_n (pc' := 102) (x := 115) kc_58_101 rfl rfl ?_
            refine xi_getfield (pc' := 105) (v := .ref 155) kc_58_102 rfl rfl rfl A45 rfl ?_
            refine xi_iload_n (pc' := 106) (x := x3) kc_58_105 rfl rfl ?_
            refine xi_iconst (pc' := 107) (v := 2) kc_58_106 rfl rfl ?_
            refine xi_iload (pc' := 109) (x := 81) kc_58_107 rfl rfl ?_
            refine xi_imul (pc' := 110) (v := 162) kc_58_109 rfl rfl ?_
            obtain ⟨v55, ev55⟩ : ∃ q : Int32, x3 + 162 = q := ⟨_, rfl⟩
            have zv55 : v55.toInt = (x3.toInt + 162) := by rw [← ev55]; exact (xz_add (X := x3.toInt) (Y := 162) rfl (by decide) (by omega) (by omega)).trans (by omega)
            refine xi_iadd (pc' := 111) (v := v55) kc_58_110 rfl ev55 ?_
            have t56 : (-162) ≤ x3.toInt ∧ x3.toInt ≤ 6398 := by omega
            obtain ⟨v57, ev57, bv57, dv57⟩ := xj_get hy53 ry53 (i := v55) (by rw [zv55]; omega) (by rw [zv55]; omega)
            refine xi_iaload (pc' := 112) (v := v57) kc_58_111 rfl A53 (by decide) rfl (xi_in (by rw [zv55]; omega) (by rw [hy53]; rw [zv55]; omega)) ev57 ?_
            refine xi_istore (pc' := 114) (lv' := [(8, .int v57), (7, .int v54), (0, .ref 115), (2, .int x2), (3, .int x3), (4, .int x4), (5, .int 81), (6, .int 4)]) kc_58_112 rfl rfl (xm_lt ml_58 rfl) ?_
            refine xi_aload_n (pc' := 115) (x := 115) kc_58_114 rfl rfl ?_
            refine xi_getfield (pc' := 118) (v := .ref 153) kc_58_115 rfl rfl rfl A45 rfl ?_
            refine xi_iload (pc' := 120) (x := 4) kc_58_118 rfl rfl ?_
            obtain ⟨y58, A58, hy58, ry58⟩ := xk_arr K31.1 xD_153
            obtain ⟨v59, ev59, bv59, dv59⟩ := xj_get hy58 ry58 (i := 4) (by decide) (by decide)
            refine xi_iaload (pc' := 121) (v := v59) kc_58_120 rfl A58 (by decide) rfl (xi_in (by decide) (by rw [hy58]; decide)) ev59 ?_
            refine xi_iload (pc' := 123) (x := v54) kc_58_121 rfl rfl ?_
            refine xi_iload (pc' := 125) (x := v57) kc_58_123 rfl rfl ?_
            by_cases c60 : v54.toInt ≤ v57.toInt
            · refine xi_cmt (pc' := 133) kc_58_125 rfl (xc_le_t (X := v54.toInt) (Y := v57.toInt) rfl rfl (by omega)) ?_
              refine xi_iload (pc' := 135) (x := v57) kc_58_133 rfl rfl ?_
              obtain ⟨v61, ev61⟩ : ∃ q : Int32, (v59 : Int32) + v57 = q := ⟨_, rfl⟩
              have rv61 := xc_rng v61
              refine xi_iadd (pc' := 136) (v := v61) kc_58_135 rfl ev61 ?_
              refine xi_istore (pc' := 138) (lv' := [(9, .int v61), (8, .int v57), (7, .int v54), (0, .ref 115), (2, .int x2), (3, .int x3), (4, .int x4), (5, .int 81), (6, .int 4)]) kc_58_136 rfl rfl (xm_lt ml_58 rfl) ?_
              refine xi_iload (pc' := 140) (x := x4) kc_58_138 rfl rfl ?_
              by_cases c62 : x4.toInt < 0
              · refine xi_ift (pc' := 150) kc_58_140 rfl (xc_lt_t (X := x4.toInt) (Y := 0) rfl (by decide) (by omega)) ?_
                refine xi_iload (pc' := 152) (x := v61) kc_58_150 rfl rfl ?_
                refine xi_goto (pc' := 157) kc_58_152 rfl ?_
                refine xi_istore (pc' := 159) (lv' := [(4, .int v61), (9, .int v61), (8, .int v57), (7, .int v54), (0, .ref 115), (2, .int x2), (3, .int x3), (5, .int 81), (6, .int 4)]) kc_58_157 rfl rfl (xm_lt ml_58 rfl) ?_
                refine xi_iload (pc' := 161) (x := 81) kc_58_159 rfl rfl ?_
                refine xi_iconst (pc' := 162) (v := 3) kc_58_161 rfl rfl ?_
                refine xi_imul (pc' := 163) (v := 243) kc_58_162 rfl rfl ?_
                refine xi_istore (pc' := 165) (lv' := [(5, .int 243), (4, .int v61), (9, .int v61), (8, .int v57), (7, .int v54), (0, .ref 115), (2, .int x2), (3, .int x3), (6, .int 4)]) kc_58_163 rfl rfl (xm_lt ml_58 rfl) ?_
                refine xi_iinc (pc' := 168) (x := 4) (v := 5) (lv' := [(6, .int 5), (5, .int 243), (4, .int v61), (9, .int v61), (8, .int v57), (7, .int v54), (0, .ref 115), (2, .int x2), (3, .int x3)]) kc_58_165 rfl rfl rfl rfl (xm_lt ml_58 rfl) ?_
                refine xi_goto (pc' := 62) kc_58_168 rfl ?_
                have zc5 : (5 : Int32).toInt = 5 := by decide
                have zc243 : (243 : Int32).toInt = 243 := by decide
                refine xw_lv (b := [(0, .ref 115), (2, .int x2), (3, .int x3), (4, .int v61), (5, .int 243), (6, .int 5)]) (lvS_cons (lvS_cons (lvS_cons (lvS_cons (lvS_cons (lvS_cons (lvS_nil (show ([6, 5, 4, 9, 8, 7, 0, 2, 3] : List Nat).Nodup by decide)) rfl) rfl) rfl) rfl) rfl) rfl) ?_
                exact i15 x2 x3 v61 hh29 (by omega) (by omega) K31 (by omega)
              · refine xi_iff (pc' := 143) kc_58_140 rfl (xc_lt_f (X := x4.toInt) (Y := 0) rfl (by decide) (by omega)) ?_
                refine xi_iload (pc' := 145) (x := v61) kc_58_143 rfl rfl ?_
                refine xi_iload (pc' := 147) (x := x4) kc_58_145 rfl rfl ?_
                by_cases c63 : x4.toInt ≤ v61.toInt
                · refine xi_cmt (pc' := 155) kc_58_147 rfl (xc_ge_t (X := v61.toInt) (Y := x4.toInt) rfl rfl (by omega)) ?_
                  refine xi_iload (pc' := 157) (x := x4) kc_58_155 rfl rfl ?_
                  refine xi_istore (pc' := 159) (lv' := [(4, .int x4), (9, .int v61), (8, .int v57), (7, .int v54), (0, .ref 115), (2, .int x2), (3, .int x3), (5, .int 81), (6, .int 4)]) kc_58_157 rfl rfl (xm_lt ml_58 rfl) ?_
                  refine xi_iload (pc' := 161) (x := 81) kc_58_159 rfl rfl ?_
                  refine xi_iconst (pc' := 162) (v := 3) kc_58_161 rfl rfl ?_
                  refine xi_imul (pc' := 163) (v := 243) kc_58_162 rfl rfl ?_
                  refine xi_istore (pc' := 165) (lv' := [(5, .int 243), (4, .int x4), (9, .int v61), (8, .int v57), (7, .int v54), (0, .ref 115), (2, .int x2), (3, .int x3), (6, .int 4)]) kc_58_163 rfl rfl (xm_lt ml_58 rfl) ?_
                  refine xi_iinc (pc' := 168) (x := 4) (v := 5) (lv' := [(6, .int 5), (5, .int 243), (4, .int x4), (9, .int v61), (8, .int v57), (7, .int v54), (0, .ref 115), (2, .int x2), (3, .int x3)]) kc_58_165 rfl rfl rfl rfl (xm_lt ml_58 rfl) ?_
                  refine xi_goto (pc' := 62) kc_58_168 rfl ?_
                  have zc5 : (5 : Int32).toInt = 5 := by decide
                  have zc243 : (243 : Int32).toInt = 243 := by decide
                  refine xw_lv (b := [(0, .ref 115), (2, .int x2), (3, .int x3), (4, .int x4), (5, .int 243), (6, .int 5)]) (lvS_cons (lvS_cons (lvS_cons (lvS_cons (lvS_cons (lvS_cons (lvS_nil (show ([6, 5, 4, 9, 8, 7, 0, 2, 3] : List Nat).Nodup by decide)) rfl) rfl) rfl) rfl) rfl) rfl) ?_
                  exact i15 x2 x3 x4 hh29 (by omega) (by omega) K31 (by omega)
                · refine xi_cmf (pc' := 150) kc_58_147 rfl (xc_ge_f (X := v61.toInt) (Y := x4.toInt) rfl rfl (by omega)) ?_
                  refine xi_iload (pc' := 152) (x := v61) kc_58_150 rfl rfl ?_
                  refine xi_goto (pc' := 157) kc_58_152 rfl ?_
                  refine xi_istore (pc' := 159) (lv' := [(4, .int v61), (9, .int v61), (8, .int v57), (7, .int v54), (0, .ref 115), (2, .int x2), (3, .int x3), (5, .int 81), (6, .int 4)]) kc_58_157 rfl rfl (xm_lt ml_58 rfl) ?_
                  refine xi_iload (pc' := 161) (x := 81) kc_58_159 rfl rfl ?_
                  refine xi_iconst (pc' := 162) (v := 3) kc_58_161 rfl rfl ?_
                  refine xi_imul (pc' := 163) (v := 243) kc_58_162 rfl rfl ?_
                  refine xi_istore (pc' := 165) (lv' := [(5, .int 243), (4, .int v61), (9, .int v61), (8, .int v57), (7, .int v54), (0, .ref 115), (2, .int x2), (3, .int x3), (6, .int 4)]) kc_58_163 rfl rfl (xm_lt ml_58 rfl) ?_
                  refine xi_iinc (pc' := 168) (x := 4) (v := 5) (lv' := [(6, .int 5), (5, .int 243), (4, .int v61), (9, .int v61), (8, .int v57), (7, .int v54), (0, .ref 115), (2, .int x2), (3, .int x3)]) kc_58_165 rfl rfl rfl rfl (xm_lt ml_58 rfl) ?_
                  refine xi_goto (pc' := 62) kc_58_168 rfl ?_
                  have zc5 : (5 : Int32).toInt = 5 := by decide
                  have zc243 : (243 : Int32).toInt = 243 := by decide
                  refine xw_lv (b := [(0, .ref 115), (2, .int x2), (3, .int x3), (4, .int v61), (5, .int 243), (6, .int 5)]) (lvS_cons (lvS_cons (lvS_cons (lvS_cons (lvS_cons (lvS_cons (lvS_nil (show ([6, 5, 4, 9, 8, 7, 0, 2, 3] : List Nat).Nodup by decide)) rfl) rfl) rfl) rfl) rfl) rfl) ?_
                  exact i15 x2 x3 v61 hh29 (by omega) (by omega) K31 (by omega)
            · refine xi_cmf (pc' := 128) kc_58_125 rfl (xc_le_f (X := v54.toInt) (Y := v57.toInt) rfl rfl (by omega)) ?_
              refine xi_iload (pc' := 130) (x := v54) kc_58_128 rfl rfl ?_
              refine xi_goto (pc' := 135) kc_58_130 rfl ?_
              obtain ⟨v64, ev64⟩ : ∃ q : Int32, (v59 : Int32) + v54 = q := ⟨_, rfl⟩
              have rv64 := xc_rng v64
              refine xi_iadd (pc' := 136) (v := v64) kc_58_135 rfl ev64 ?_
              refine xi_istore (pc' := 138) (lv' := [(9, .int v64), (8, .int v57), (7, .int v54), (0, .ref 115), (2, .int x2), (3, .int x3), (4, .int x4), (5, .int 81), (6, .int 4)]) kc_58_136 rfl rfl (xm_lt ml_58 rfl) ?_
              refine xi_iload (pc' := 140) (x := x4) kc_58_138 rfl rfl ?_
              by_cases c65 : x4.toInt < 0
              · refine xi_ift (pc' := 150) kc_58_140 rfl (xc_lt_t (X := x4.toInt) (Y := 0) rfl (by decide) (by omega)) ?_
                refine xi_iload (pc' := 152) (x := v64) kc_58_150 rfl rfl ?_
                refine xi_goto (pc' := 157) kc_58_152 rfl ?_
                refine xi_istore (pc' := 159) (lv' := [(4, .int v64), (9, .int v64), (8, .int v57), (7, .int v54), (0, .ref 115), (2, .int x2), (3, .int x3), (5, .int 81), (6, .int 4)]) kc_58_157 rfl rfl (xm_lt ml_58 rfl) ?_
                refine xi_iload (pc' := 161) (x := 81) kc_58_159 rfl rfl ?_
                refine xi_iconst (pc' := 162) (v := 3) kc_58_161 rfl rfl ?_
                refine xi_imul (pc' := 163) (v := 243) kc_58_162 rfl rfl ?_
                refine xi_istore (pc' := 165) (lv' := [(5, .int 243), (4, .int v64), (9, .int v64), (8, .int v57), (7, .int v54), (0, .ref 115), (2, .int x2), (3, .int x3), (6, .int 4)]) kc_58_163 rfl rfl (xm_lt ml_58 rfl) ?_
                refine xi_iinc (pc' := 168) (x := 4) (v := 5) (lv' := [(6, .int 5), (5, .int 243), (4, .int v64), (9, .int v64), (8, .int v57), (7, .int v54), (0, .ref 115), (2, .int x2), (3, .int x3)]) kc_58_165 rfl rfl rfl rfl (xm_lt ml_58 rfl) ?_
                refine xi_goto (pc' := 62) kc_58_168 rfl ?_
                have zc5 : (5 : Int32).toInt = 5 := by decide
                have zc243 : (243 : Int32).toInt = 243 := by decide
                refine xw_lv (b := [(0, .ref 115), (2, .int x2), (3, .int x3), (4, .int v64), (5, .int 243), (6, .int 5)]) (lvS_cons (lvS_cons (lvS_cons (lvS_cons (lvS_cons (lvS_cons (lvS_nil (show ([6, 5, 4, 9, 8, 7, 0, 2, 3] : List Nat).Nodup by decide)) rfl) rfl) rfl) rfl) rfl) rfl) ?_
                exact i15 x2 x3 v64 hh29 (by omega) (by omega) K31 (by omega)
              · refine xi_iff (pc' := 143) kc_58_140 rfl (xc_lt_f (X := x4.toInt) (Y := 0) rfl (by decide) (by omega)) ?_
                refine xi_iload (pc' := 145) (x := v64) kc_58_143 rfl rfl ?_
                refine xi_iload (pc' := 147) (x := x4) kc_58_145 rfl rfl ?_
                by_cases c66 : x4.toInt ≤ v64.toInt
                · refine xi_cmt (pc' := 155) kc_58_147 rfl (xc_ge_t (X := v64.toInt) (Y := x4.toInt) rfl rfl (by omega)) ?_
                  refine xi_iload (pc' := 157) (x := x4) kc_58_155 rfl rfl ?_
                  refine xi_istore (pc' := 159) (lv' := [(4, .int x4), (9, .int v64), (8, .int v57), (7, .int v54), (0, .ref 115), (2, .int x2), (3, .int x3), (5, .int 81), (6, .int 4)]) kc_58_157 rfl rfl (xm_lt ml_58 rfl) ?_
                  refine xi_iload (pc' := 161) (x := 81) kc_58_159 rfl rfl ?_
                  refine xi_iconst (pc' := 162) (v := 3) kc_58_161 rfl rfl ?_
                  refine xi_imul (pc' := 163) (v := 243) kc_58_162 rfl rfl ?_
                  refine xi_istore (pc' := 165) (lv' := [(5, .int 243), (4, .int x4), (9, .int v64), (8, .int v57), (7, .int v54), (0, .ref 115), (2, .int x2), (3, .int x3), (6, .int 4)]) kc_58_163 rfl rfl (xm_lt ml_58 rfl) ?_
                  refine xi_iinc (pc' := 168) (x := 4) (v := 5) (lv' := [(6, .int 5), (5, .int 243), (4, .int x4), (9, .int v64), (8, .int v57), (7, .int v54), (0, .ref 115), (2, .int x2), (3, .int x3)]) kc_58_165 rfl rfl rfl rfl (xm_lt ml_58 rfl) ?_
                  refine xi_goto (pc' := 62) kc_58_168 rfl ?_
                  have zc5 : (5 : Int32).toInt = 5 := by decide
                  have zc243 : (243 : Int32).toInt = 243 := by decide
                  refine xw_lv (b := [(0, .ref 115), (2, .int x2), (3, .int x3), (4, .int x4), (5, .int 243), (6, .int 5)]) (lvS_cons (lvS_cons (lvS_cons (lvS_cons (lvS_cons (lvS_cons (lvS_nil (show ([6, 5, 4, 9, 8, 7, 0, 2, 3] : List Nat).Nodup by decide)) rfl) rfl) rfl) rfl) rfl) rfl) ?_
                  exact i15 x2 x3 x4 hh29 (by omega) (by omega) K31 (by omega)
                · refine xi_cmf (pc' := 150) kc_58_147 rfl (xc_ge_f (X := v64.toInt) (Y := x4.toInt) rfl rfl (by omega)) ?_
                  refine xi_iload (pc' := 152) (x := v64) kc_58_150 rfl rfl ?_
                  refine xi_goto (pc' := 157) kc_58_152 rfl ?_
                  refine xi_istore (pc' := 159) (lv' := [(4, .int v64), (9, .int v64), (8, .int v57), (7, .int v54), (0, .ref 115), (2, .int x2), (3, .int x3), (5, .int 81), (6, .int 4)]) kc_58_157 rfl rfl (xm_lt ml_58 rfl) ?_
                  refine xi_iload (pc' := 161) (x := 81) kc_58_159 rfl rfl ?_
                  refine xi_iconst (pc' := 162) (v := 3) kc_58_161 rfl rfl ?_
                  refine xi_imul (pc' := 163) (v := 243) kc_58_162 rfl rfl ?_
                  refine xi_istore (pc' := 165) (lv' := [(5, .int 243), (4, .int v64), (9, .int v64), (8, .int v57), (7, .int v54), (0, .ref 115), (2, .int x2), (3, .int x3), (6, .int 4)]) kc_58_163 rfl rfl (xm_lt ml_58 rfl) ?_
                  refine xi_iinc (pc' := 168) (x := 4) (v := 5) (lv' := [(6, .int 5), (5, .int 243), (4, .int v64), (9, .int v64), (8, .int v57), (7, .int v54), (0, .ref 115), (2, .int x2), (3, .int x3)]) kc_58_165 rfl rfl rfl rfl (xm_lt ml_58 rfl) ?_
                  refine xi_goto (pc' := 62) kc_58_168 rfl ?_
                  have zc5 : (5 : Int32).toInt = 5 := by decide
                  have zc243 : (243 : Int32).toInt = 243 := by decide
                  refine xw_lv (b := [(0, .ref 115), (2, .int x2), (3, .int x3), (4, .int v64), (5, .int 243), (6, .int 5)]) (lvS_cons (lvS_cons (lvS_cons (lvS_cons (lvS_cons (lvS_cons (lvS_nil (show ([6, 5, 4, 9, 8, 7, 0, 2, 3] : List Nat).Nodup by decide)) rfl) rfl) rfl) rfl) rfl) rfl) ?_
                  exact i15 x2 x3 v64 hh29 (by omega) (by omega) K31 (by omega)
        · refine xi_ift (pc' := 159) kc_58_77 rfl (xc_ne_t (X := v26.toInt) (Y := 0) rfl (by decide) (by omega)) ?_
          refine xi_iload (pc' := 161) (x := 81) kc_58_159 rfl rfl ?_
          refine xi_iconst (pc' := 162) (v := 3) kc_58_161 rfl rfl ?_
          refine xi_imul (pc' := 163) (v := 243) kc_58_162 rfl rfl ?_
          refine xi_istore (pc' := 165) (lv' := [(5, .int 243), (0, .ref 115), (2, .int x2), (3, .int x3), (4, .int x4), (6, .int 4)]) kc_58_163 rfl rfl (xm_lt ml_58 rfl) ?_
          refine xi_iinc (pc' := 168) (x := 4) (v := 5) (lv' := [(6, .int 5), (5, .int 243), (0, .ref 115), (2, .int x2), (3, .int x3), (4, .int x4)]) kc_58_165 rfl rfl rfl rfl (xm_lt ml_58 rfl) ?_
          refine xi_goto (pc' := 62) kc_58_168 rfl ?_
          have zc5 : (5 : Int32).toInt = 5 := by decide
          have zc243 : (243 : Int32).toInt = 243 := by decide
          refine xw_lv (b := [(0, .ref 115), (2, .int x2), (3, .int x3), (4, .int x4), (5, .int 243), (6, .int 5)]) (lvS_cons (lvS_cons (lvS_cons (lvS_cons (lvS_cons (lvS_cons (lvS_nil (show ([6, 5, 0, 2, 3, 4] : List Nat).Nodup by decide)) rfl) rfl) rfl) rfl) rfl) rfl) ?_
          exact i15 x2 x3 x4 h (by omega) (by omega) K (by omega)
    · intro x2 x3 x4 h b2 b3 K hm
      have rx4 := xc_rng x4
      refine xi_iload (pc' := 64) (x := 5) kc_58_62 rfl rfl ?_
      refine xi_aload_n (pc' := 65) (x := 115) kc_58_64 rfl rfl ?_
      obtain ⟨u1, u2, u3, u4, u5, u6, u7, u8, u9, u10, u11, u12, u13, bu1, bu2, bu3, bu4, bu5, bu6, bu7, bu8, bu9, bu10, bu11, bu12, bu13, A14⟩ := xq_115 K.1
      refine xi_getfield (pc' := 68) (v := .int u10) kc_58_65 rfl rfl rfl A14 rfl ?_
      by_cases c15 : u10.toInt ≤ 5
      · refine xi_cmt (pc' := 171) kc_58_68 rfl (xc_ge_t (X := 5) (Y := u10.toInt) (by decide) rfl (by omega)) ?_
        refine xi_aload_n (pc' := 172) (x := 115) kc_58_171 rfl rfl ?_
        refine xi_getfield (pc' := 175) (v := .ref 155) kc_58_172 rfl rfl rfl A14 rfl ?_
        refine xi_iload_n (pc' := 176) (x := x3) kc_58_175 rfl rfl ?_
        refine xi_iload (pc' := 178) (x := x4) kc_58_176 rfl rfl ?_
        by_cases c16 : 0 ≤ x4.toInt
        · refine xi_ift (pc' := 185) kc_58_178 rfl (xc_ge_t (X := x4.toInt) (Y := 0) rfl (by decide) (by omega)) ?_
          refine xi_iload (pc' := 187) (x := x4) kc_58_185 rfl rfl ?_
          obtain ⟨y17, A17, hy17, ry17⟩ := xk_arr K.1 xD_155
          obtain ⟨y18, s18, hy18, ry18⟩ := xj_set (v := x4) hy17 ry17 x3 (by first | omega | decide) (by first | omega | decide)
          refine xi_iastore (pc' := 188) (x' := y18) kc_58_187 rfl A17 rfl (xi_in (by omega) (by rw [hy17]; omega)) s18 (fun hh18 eh18 => ?_)
          have K19 := xk_pa K (xk_wa (by decide +kernel)) xD_155 hy18 ry18 eh18
          obtain ⟨v20, ev20⟩ : ∃ q : Int32, x3 + (-1) = q := ⟨_, rfl⟩
          have zv20 : v20.toInt = (x3.toInt + (-1)) := by rw [← ev20]; exact (xz_add (X := x3.toInt) (Y := (-1)) rfl (by decide) (by omega) (by omega)).trans (by omega)
          refine xi_iinc (pc' := 191) (x := x3) (v := v20) (lv' := [(3, .int v20), (0, .ref 115), (2, .int x2), (4, .int x4), (5, .int 243), (6, .int 5)]) kc_58_188 rfl rfl ev20 rfl (xm_lt ml_58 rfl) ?_
          refine xi_goto (pc' := 48) kc_58_191 rfl ?_
          refine xw_lv (b := [(0, .ref 115), (2, .int x2), (3, .int v20)]) (lvS_cons (lvS_cons (lvS_cons (lvS_nil (show ([3, 0, 2, 4, 5, 6] : List Nat).Nodup by decide)) rfl) rfl) rfl) ?_
          exact i9 x2 v20 hh18 (by omega) (by omega) K19 (by omega)
        · refine xi_iff (pc' := 181) kc_58_178 rfl (xc_ge_f (X := x4.toInt) (Y := 0) rfl (by decide) (by omega)) ?_
          refine xi_iconst (pc' := 182) (v := 0) kc_58_181 rfl rfl ?_
          refine xi_goto (pc' := 187) kc_58_182 rfl ?_
          obtain ⟨y21, A21, hy21, ry21⟩ := xk_arr K.1 xD_155
          obtain ⟨y22, s22, hy22, ry22⟩ := xj_set (v := 0) hy21 ry21 x3 (by first | omega | decide) (by first | omega | decide)
          refine xi_iastore (pc' := 188) (x' := y22) kc_58_187 rfl A21 rfl (xi_in (by omega) (by rw [hy21]; omega)) s22 (fun hh22 eh22 => ?_)
          have K23 := xk_pa K (xk_wa (by decide +kernel)) xD_155 hy22 ry22 eh22
          obtain ⟨v24, ev24⟩ : ∃ q : Int32, x3 + (-1) = q := ⟨_, rfl⟩
          have zv24 : v24.toInt = (x3.toInt + (-1)) := by rw [← ev24]; exact (xz_add (X := x3.toInt) (Y := (-1)) rfl (by decide) (by omega) (by omega)).trans (by omega)
          refine xi_iinc (pc' := 191) (x := x3) (v := v24) (lv' := [(3, .int v24), (0, .ref 115), (2, .int x2), (4, .int x4), (5, .int 243), (6, .int 5)]) kc_58_188 rfl rfl ev24 rfl (xm_lt ml_58 rfl) ?_
          refine xi_goto (pc' := 48) kc_58_191 rfl ?_
          refine xw_lv (b := [(0, .ref 115), (2, .int x2), (3, .int v24)]) (lvS_cons (lvS_cons (lvS_cons (lvS_nil (show ([3, 0, 2, 4, 5, 6] : List Nat).Nodup by decide)) rfl) rfl) rfl) ?_
          exact i9 x2 v24 hh22 (by omega) (by omega) K23 (by omega)
      · refine xi_cmf (pc' := 71) kc_58_68 rfl (xc_ge_f (X := 5) (Y := u10.toInt) (by decide) rfl (by omega)) ?_
        refine xi_iload_n (pc' := 72) (x := x3) kc_58_71 rfl rfl ?_
        refine xi_iload (pc' := 74) (x := 243) kc_58_72 rfl rfl ?_
        obtain ⟨v25, ev25⟩ : ∃ q : Int32, x3 / 243 = q := ⟨_, rfl⟩
        have dv25 : v25.toInt = x3.toInt / 243 := by rw [← ev25]; exact xz_dive (X := x3.toInt) (Y := 243) rfl (by decide) (by omega) (by decide)
        have bv25 : 0 ≤ v25.toInt ∧ v25.toInt ≤ 26 := by omega
        refine xi_idiv (pc' := 75) (v := v25) kc_58_74 rfl ev25 (by decide) ?_
        refine xi_iconst (pc' := 76) (v := 3) kc_58_75 rfl rfl ?_
        obtain ⟨v26, ev26⟩ : ∃ q : Int32, v25 - v25 / 3 * 3 = q := ⟨_, rfl⟩
        have dv26 : v26.toInt = v25.toInt % 3 := by rw [← ev26]; exact xz_reme (X := v25.toInt) (Y := 3) rfl (by decide) (by omega) (by decide)
        have bv26 : 0 ≤ v26.toInt ∧ v26.toInt ≤ 2 := by omega
        refine xi_irem (pc' := 77) (v := v26) kc_58_76 rfl ev26 (by decide) ?_
        by_cases c27 : v26.toInt = 0
        · refine xi_iff (pc' := 80) kc_58_77 rfl (xc_ne_f (X := v26.toInt) (Y := 0) rfl (by decide) (by omega)) ?_
          refine xi_aload_n (pc' := 81) (x := 115) kc_58_80 rfl rfl ?_
          refine xi_iload_n (pc' := 82) (x := x3) kc_58_81 rfl rfl ?_
          refine xi_iload (pc' := 84) (x := 5) kc_58_82 rfl rfl ?_
          refine xi_virtual (mj := 59) (as := [.int x3, .int 5]) (st1 := []) (lv0 := [(0, .ref 115), (1, .int x3), (2, .int 5)]) kc_58_84 rfl rfl rfl rfl rfl A14 (Nat.le_of_ble_eq_true rfl) (hJ _ _ _ _ (by decide)) (xm_le ml_59 rfl) rfl ?_
          have zc5 : (5 : Int32).toInt = 5 := by decide
          refine mt_59_0 hJ hov1 hov2 (d := d + 3) (x1 := x3) (x2 := 5) K.1 (by first | omega | decide) (by first | omega | decide) (fun r28 hh29 br28 K30 => ?_)
          have K31 := xk_tr K K30 (xsb_ok _ _ (by decide +kernel))
          obtain ⟨u32, u33, u34, u35, u36, u37, u38, u39, u40, u41, u42, u43, u44, bu32, bu33, bu34, bu35, bu36, bu37, bu38, bu39, bu40, bu41, bu42, bu43, bu44, A45⟩ := xq_115 K31.1
          have e46 : u2 = u33 := xk_eqi (q := 1) K30 (by decide +kernel) A14 A45 rfl rfl
          subst e46
          have e47 : u5 = u36 := xk_eqi (q := 23) K30 (by decide +kernel) A14 A45 rfl rfl
          subst e47
          have e48 : u8 = u39 := xk_eqi (q := 34) K30 (by decide +kernel) A14 A45 rfl rfl
          subst e48
          have e49 : u6 = u37 := xk_eqi (q := 32) K30 (by decide +kernel) A14 A45 rfl rfl
          subst e49
          show xw J ov (d + 7) 58 (87, [(0, .ref 115), (2, .int x2), (3, .int x3), (4, .int x4), (5, .int 243), (6, .int 5)], [.int r28], hh29) _
          by_cases c50 : r28.toInt = 0
          · refine xi_ift (pc' := 159) kc_58_87 rfl (xc_eq_t (X := r28.toInt) (Y := 0) rfl (by decide) (by omega)) ?_
            refine xi_iload (pc' := 161) (x := 243) kc_58_159 rfl rfl ?_
            refine xi_iconst (pc' := 162) (v := 3) kc_58_161 rfl rfl ?_
            refine xi_imul (pc' := 163) (v := 729) kc_58_162 rfl rfl ?_
            refine xi_istore (pc' := 165) (lv' := [(5, .int 729), (0, .ref 115), (2, .int x2), (3, .int x3), (4, .int x4), (6, .int 5)]) kc_58_163 rfl rfl (xm_lt ml_58 rfl) ?_
            refine xi_iinc (pc' := 168) (x := 5) (v := 6) (lv' := [(6, .int 6), (5, .int 729), (0, .ref 115), (2, .int x2), (3, .int x3), (4, .int x4)]) kc_58_165 rfl rfl rfl rfl (xm_lt ml_58 rfl) ?_
            refine xi_goto (pc' := 62) kc_58_168 rfl ?_
            have zc6 : (6 : Int32).toInt = 6 := by decide
            have zc729 : (729 : Int32).toInt = 729 := by decide
            refine xw_lv (b := [(0, .ref 115), (2, .int x2), (3, .int x3), (4, .int x4), (5, .int 729), (6, .int 6)]) (lvS_cons (lvS_cons (lvS_cons (lvS_cons (lvS_cons (lvS_cons (lvS_nil (show ([6, 5, 0, 2, 3, 4] : List Nat).Nodup by decide)) rfl) rfl) rfl) rfl) rfl) rfl) ?_
            exact i16 x2 x3 x4 hh29 (by omega) (by omega) K31 (by omega)
          · refine xi_iff (pc' := 90) kc_58_87 rfl (xc_eq_f (X := r28.toInt) (Y := 0) rfl (by decide) (by omega)) ?_
            refine xi_aload_n (pc' := 91) (x := 115) kc_58_90 rfl rfl ?_
            refine xi_getfield (pc' := 94) (v := .ref 155) kc_58_91 rfl rfl rfl A45 rfl ?_
            refine xi_iload_n (pc' := 95) (x := x3) kc_58_94 rfl rfl ?_
            refine xi_iload (pc' := 97) (x := 243) kc_58_95 rfl rfl ?_
            obtain ⟨v51, ev51⟩ : ∃ q : Int32, x3 + 243 = q := ⟨_, rfl⟩
            have zv51 : v51.toInt = (x3.toInt + 243) := by rw [← ev51]; exact (xz_add (X := x3.toInt) (Y := 243) rfl (by decide) (by omega) (by omega)).trans (by omega)
            refine xi_iadd (pc' := 98) (v := v51) kc_58_97 rfl ev51 ?_
            have t52 : (-243) ≤ x3.toInt ∧ x3.toInt ≤ 6317 := by omega
            obtain ⟨y53, A53, hy53, ry53⟩ := xk_arr K31.1 xD_155
            obtain ⟨v54, ev54, bv54, dv54⟩ := xj_get hy53 ry53 (i := v51) (by rw [zv51]; omega) (by rw [zv51]; omega)
            refine xi_iaload (pc' := 99) (v := v54) kc_58_98 rfl A53 (by decide) rfl (xi_in (by rw [zv51]; omega) (by rw [hy53]; rw [zv51]; omega)) ev54 ?_
            refine xi_istore (pc' := 101) (lv' := [(7, .int v54), (0, .ref 115), (2, .int x2), (3, .int x3), (4, .int x4), (5, .int 243), (6, .int 5)]) kc_58_99 rfl rfl (xm_lt ml_58 rfl) ?_
            refine xi_aload_n (pc' := 102) (x := 115) kc_58_101 rfl rfl ?_
            refine xi_getfield (pc' := 105) (v := .ref 155) kc_58_102 rfl rfl rfl A45 rfl ?_
            refine xi_iload_n (pc' := 106) (x := x3) kc_58_105 rfl rfl ?_
            refine xi_iconst (pc' := 107) (v := 2) kc_58_106 rfl rfl ?_
            refine xi_iload (pc' := 109) (x := 243) kc_58_107 rfl rfl ?_
            refine xi_imul (pc' := 110) (v := 486) kc_58_109 rfl rfl ?_
            obtain ⟨v55, ev55⟩ : ∃ q : Int32, x3 + 486 = q := ⟨_, rfl⟩
            have zv55 : v55.toInt = (x3.toInt + 486) := by rw [← ev55]; exact (xz_add (X := x3.toInt) (Y := 486) rfl (by decide) (by omega) (by omega)).trans (by omega)
            refine xi_iadd (pc' := 111) (v := v55) kc_58_110 rfl ev55 ?_
            have t56 : (-486) ≤ x3.toInt ∧ x3.toInt ≤ 6074 := by omega
            obtain ⟨v57, ev57, bv57, dv57⟩ := xj_get hy53 ry53 (i := v55) (by rw [zv55]; omega) (by rw [zv55]; omega)
            refine xi_iaload (pc' := 112) (v := v57) kc_58_111 rfl A53 (by decide) rfl (xi_in (by rw [zv55]; omega) (by rw [hy53]; rw [zv55]; omega)) ev57 ?_
            refine xi_istore (pc' := 114) (lv' := [(8, .int v57), (7, .int v54), (0, .ref 115), (2, .int x2), (3, .int x3), (4, .int x4), (5, .int 243), (6, .int 5)]) kc_58_112 rfl rfl (xm_lt ml_58 rfl) ?_
            refine xi_aload_n (pc' := 115) (x := 115) kc_58_114 rfl rfl ?_
            refine xi_getfield (pc' := 118) (v := .ref 153) kc_58_115 rfl rfl rfl A45 rfl ?_
            refine xi_iload (pc' := 120) (x := 5) kc_58_118 rfl rfl ?_
            obtain ⟨y58, A58, hy58, ry58⟩ := xk_arr K31.1 xD_153
            obtain ⟨v59, ev59, bv59, dv59⟩ := xj_get hy58 ry58 (i := 5) (by decide) (by decide)
            refine xi_iaload (pc' := 121) (v := v59) kc_58_120 rfl A58 (by decide) rfl (xi_in (by decide) (by rw [hy58]; decide)) ev59 ?_
            refine xi_iload (pc' := 123) (x := v54) kc_58_121 rfl rfl ?_
            refine xi_iload (pc' := 125) (x := v57) kc_58_123 rfl rfl ?_
            by_cases c60 : v54.toInt ≤ v57.toInt
            · refine xi_cmt (pc' := 133) kc_58_125 rfl (xc_le_t (X := v54.toInt) (Y := v57.toInt) rfl rfl (by omega)) ?_
              refine xi_iload (pc' := 135) (x := v57) kc_58_133 rfl rfl ?_
              obtain ⟨v61, ev61⟩ : ∃ q : Int32, (v59 : Int32) + v57 = q := ⟨_, rfl⟩
              have rv61 := xc_rng v61
              refine xi_iadd (pc' := 136) (v := v61) kc_58_135 rfl ev61 ?_
              refine xi_istore (pc' := 138) (lv' := [(9, .int v61), (8, .int v57), (7, .int v54), (0, .ref 115), (2, .int x2), (3, .int x3), (4, .int x4), (5, .int 243), (6, .int 5)]) kc_58_136 rfl rfl (xm_lt ml_58 rfl) ?_
              refine xi_iload (pc' := 140) (x := x4) kc_58_138 rfl rfl ?_
              by_cases c62 : x4.toInt < 0
              · refine xi_ift (pc' := 150) kc_58_140 rfl (xc_lt_t (X := x4.toInt) (Y := 0) rfl (by decide) (by omega)) ?_
                refine xi_iload (pc' := 152) (x := v61) kc_58_150 rfl rfl ?_
                refine xi_goto (pc' := 157) kc_58_152 rfl ?_
                refine xi_istore (pc' := 159) (lv' := [(4, .int v61), (9, .int v61), (8, .int v57), (7, .int v54), (0, .ref 115), (2, .int x2), (3, .int x3), (5, .int 243), (6, .int 5)]) kc_58_157 rfl rfl (xm_lt ml_58 rfl) ?_
                refine xi_iload (pc' := 161) (x := 243) kc_58_159 rfl rfl ?_
                refine xi_iconst (pc' := 162) (v := 3) kc_58_161 rfl rfl ?_
                refine xi_imul (pc' := 163) (v := 729) kc_58_162 rfl rfl ?_
                refine xi_istore (pc' := 165) (lv' := [(5, .int 729), (4, .int v61), (9, .int v61), (8, .int v57), (7, .int v54), (0, .ref 115), (2, .int x2), (3, .int x3), (6, .int 5)]) kc_58_163 rfl rfl (xm_lt ml_58 rfl) ?_
                refine xi_iinc (pc' := 168) (x := 5) (v := 6) (lv' := [(6, .int 6), (5, .int 729), (4, .int v61), (9, .int v61), (8, .int v57), (7, .int v54), (0, .ref 115), (2, .int x2), (3, .int x3)]) kc_58_165 rfl rfl rfl rfl (xm_lt ml_58 rfl) ?_
                refine xi_goto (pc' := 62) kc_58_168 rfl ?_
                have zc6 : (6 : Int32).toInt = 6 := by decide
                have zc729 : (729 : Int32).toInt = 729 := by decide
                refine xw_lv (b := [(0, .ref 115), (2, .int x2), (3, .int x3), (4, .int v61), (5, .int 729), (6, .int 6)]) (lvS_cons (lvS_cons (lvS_cons (lvS_cons (lvS_cons (lvS_cons (lvS_nil (show ([6, 5, 4, 9, 8, 7, 0, 2, 3] : List Nat).Nodup by decide)) rfl) rfl) rfl) rfl) rfl) rfl) ?_
                exact i16 x2 x3 v61 hh29 (by omega) (by omega) K31 (by omega)
              · refine xi_iff (pc' := 143) kc_58_140 rfl (xc_lt_f (X := x4.toInt) (Y := 0) rfl (by decide) (by omega)) ?_
                refine xi_iload (pc' := 145) (x := v61) kc_58_143 rfl rfl ?_
                refine xi_iload (pc' := 147) (x := x4) kc_58_145 rfl rfl ?_
                by_cases c63 : x4.toInt ≤ v61.toInt
                · refine xi_cmt (pc' := 155) kc_58_147 rfl (xc_ge_t (X := v61.toInt) (Y := x4.toInt) rfl rfl (by omega)) ?_
                  refine xi_iload (pc' := 157) (x := x4) kc_58_155 rfl rfl ?_
                  refine xi_istore (pc' := 159) (lv' := [(4, .int x4), (9, .int v61), (8, .int v57), (7, .int v54), (0, .ref 115), (2, .int x2), (3, .int x3), (5, .int 243), (6, .int 5)]) kc_58_157 rfl rfl (xm_lt ml_58 rfl) ?_
                  refine xi_iload (pc' := 161) (x := 243) kc_58_159 rfl rfl ?_
                  refine xi_iconst (pc' := 162) (v := 3) kc_58_161 rfl rfl ?_
                  refine xi_imul (pc' := 163) (v := 729) kc_58_162 rfl rfl ?_
                  refine xi_istore (pc' := 165) (lv' := [(5, .int 729), (4, .int x4), (9, .int v61), (8, .int v57), (7, .int v54), (0, .ref 115), (2, .int x2), (3, .int x3), (6, .int 5)]) kc_58_163 rfl rfl (xm_lt ml_58 rfl) ?_
                  refine xi_iinc (pc' := 168) (x := 5) (v := 6) (lv' := [(6, .int 6), (5, .int 729), (4, .int x4), (9, .int v61), (8, .int v57), (7, .int v54), (0, .ref 115), (2, .int x2), (3, .int x3)]) kc_58_165 rfl rfl rfl rfl (xm_lt ml_58 rfl) ?_
                  refine xi_goto (pc' := 62) kc_58_168 rfl ?_
                  have zc6 : (6 : Int32).toInt = 6 := by decide
                  have zc729 : (729 : Int32).toInt = 729 := by decide
                  refine xw_lv (b := [(0, .ref 115), (2, .int x2), (3, .int x3), (4, .int x4), (5, .int 729), (6, .int 6)]) (lvS_cons (lvS_cons (lvS_cons (lvS_cons (lvS_cons (lvS_cons (lvS_nil (show ([6, 5, 4, 9, 8, 7, 0, 2, 3] : List Nat).Nodup by decide)) rfl) rfl) rfl) rfl) rfl) rfl) ?_
                  exact i16 x2 x3 x4 hh29 (by omega) (by omega) K31 (by omega)
                · refine xi_cmf (pc' := 150) kc_58_147 rfl (xc_ge_f (X := v61.toInt) (Y := x4.toInt) rfl rfl (by omega)) ?_
                  refine xi_iload (pc' := 152) (x := v61) kc_58_150 rfl rfl ?_
                  refine xi_goto (pc' := 157) kc_58_152 rfl ?_
                  refine xi_istore (pc' := 159) (lv' := [(4, .int v61), (9, .int v61), (8, .int v57), (7, .int v54), (0, .ref 115), (2, .int x2), (3, .int x3), (5, .int 243), (6, .int 5)]) kc_58_157 rfl rfl (xm_lt ml_58 rfl) ?_
                  refine xi_iload (pc' := 161) (x := 243) kc_58_159 rfl rfl ?_
                  refine xi_iconst (pc' := 162) (v := 3) kc_58_161 rfl rfl ?_
                  refine xi_imul (pc' := 163) (v := 729) kc_58_162 rfl rfl ?_
                  refine xi_istore (pc' := 165) (lv' := [(5, .int 729), (4, .int v61), (9, .int v61), (8, .int v57), (7, .int v54), (0, .ref 115), (2, .int x2), (3, .int x3), (6, .int 5)]) kc_58_163 rfl rfl (xm_lt ml_58 rfl) ?_
                  refine xi_iinc (pc' := 168) (x := 5) (v := 6) (lv' := [(6, .int 6), (5, .int 729), (4, .int v61), (9, .int v61), (8, .int v57), (7, .int v54), (0, .ref 115), (2, .int x2), (3, .int x3)]) kc_58_165 rfl rfl rfl rfl (xm_lt ml_58 rfl) ?_
                  refine xi_goto (pc' := 62) kc_58_168 rfl ?_
                  have zc6 : (6 : Int32).toInt = 6 := by decide
                  have zc729 : (729 : Int32).toInt = 729 := by decide
                  refine xw_lv (b := [(0, .ref 115), (2, .int x2), (3, .int x3), (4, .int v61), (5, .int 729), (6, .int 6)]) (lvS_cons (lvS_cons (lvS_cons (lvS_cons (lvS_cons (lvS_cons (lvS_nil (show ([6, 5, 4, 9, 8, 7, 0, 2, 3] : List Nat).Nodup by decide)) rfl) rfl) rfl) rfl) rfl) rfl) ?_
                  exact i16 x2 x3 v61 hh29 (by omega) (by omega) K31 (by omega)
            · refine xi_cmf (pc' := 128) kc_58_125 rfl (xc_le_f (X := v54.toInt) (Y := v57.toInt) rfl rfl (by omega)) ?_
              refine xi_iload (pc' := 130) (x := v54) kc_58_128 rfl rfl ?_
              refine xi_goto (pc' := 135) kc_58_130 rfl ?_
              obtain ⟨v64, ev64⟩ : ∃ q : Int32, (v59 : Int32) + v54 = q := ⟨_, rfl⟩
              have rv64 := xc_rng v64
              refine xi_iadd (pc' := 136) (v := v64) kc_58_135 rfl ev64 ?_
              refine xi_istore (pc' := 138) (lv' := [(9, .int v64), (8, .int v57), (7, .int v54), (0, .ref 115), (2, .int x2), (3, .int x3), (4, .int x4), (5, .int 243), (6, .int 5)]) kc_58_136 rfl rfl (xm_lt ml_58 rfl) ?_
              refine xi_iload (pc' := 140) (x := x4) kc_58_138 rfl rfl ?_
              by_cases c65 : x4.toInt < 0
              · refine xi_ift (pc' := 150) kc_58_140 rfl (xc_lt_t (X := x4.toInt) (Y := 0) rfl (by decide) (by omega)) ?_
                refine xi_iload (pc' := 152) (x := v64) kc_58_150 rfl rfl ?_
                refine xi_goto (pc' := 157) kc_58_152 rfl ?_
                refine xi_istore (pc' := 159) (lv' := [(4, .int v64), (9, .int v64), (8, .int v57), (7, .int v54), (0, .ref 115), (2, .int x2), (3, .int x3), (5, .int 243), (6, .int 5)]) kc_58_157 rfl rfl (xm_lt ml_58 rfl) ?_
                refine xi_iload (pc' := 161) (x := 243) kc_58_159 rfl rfl ?_
                refine xi_iconst (pc' := 162) (v := 3) kc_58_161 rfl rfl ?_
                refine xi_imul (pc' := 163) (v := 729) kc_58_162 rfl rfl ?_
                refine xi_istore (pc' := 165) (lv' := [(5, .int 729), (4, .int v64), (9, .int v64), (8, .int v57), (7, .int v54), (0, .ref 115), (2, .int x2), (3, .int x3), (6, .int 5)]) kc_58_163 rfl rfl (xm_lt ml_58 rfl) ?_
                refine xi_iinc (pc' := 168) (x := 5) (v := 6) (lv' := [(6, .int 6), (5, .int 729), (4, .int v64), (9, .int v64), (8, .int v57), (7, .int v54), (0, .ref 115), (2, .int x2), (3, .int x3)]) kc_58_165 rfl rfl rfl rfl (xm_lt ml_58 rfl) ?_
                refine xi_goto (pc' := 62) kc_58_168 rfl ?_
                have zc6 : (6 : Int32).toInt = 6 := by decide
                have zc729 : (729 : Int32).toInt = 729 := by decide
                refine xw_lv (b := [(0, .ref 115), (2, .int x2), (3, .int x3), (4, .int v64), (5, .int 729), (6, .int 6)]) (lvS_cons (lvS_cons (lvS_cons (lvS_cons (lvS_cons (lvS_cons (lvS_nil (show ([6, 5, 4, 9, 8, 7, 0, 2, 3] : List Nat).Nodup by decide)) rfl) rfl) rfl) rfl) rfl) rfl) ?_
                exact i16 x2 x3 v64 hh29 (by omega) (by omega) K31 (by omega)
              · refine xi_iff (pc' := 143) kc_58_140 rfl (xc_lt_f (X := x4.toInt) (Y := 0) rfl (by decide) (by omega)) ?_
                refine xi_iload (pc' := 145) (x := v64) kc_58_143 rfl rfl ?_
                refine xi_iload (pc' := 147) (x := x4) kc_58_145 rfl rfl ?_
                by_cases c66 : x4.toInt ≤ v64.toInt
                · refine xi_cmt (pc' := 155) kc_58_147 rfl (xc_ge_t (X := v64.toInt) (Y := x4.toInt) rfl rfl (by omega)) ?_
                  refine xi_iload (pc' := 157) (x := x4) kc_58_155 rfl rfl ?_
                  refine xi_istore (pc' := 159) (lv' := [(4, .int x4), (9, .int v64), (8, .int v57), (7, .int v54), (0, .ref 115), (2, .int x2), (3, .int x3), (5, .int 243), (6, .int 5)]) kc_58_157 rfl rfl (xm_lt ml_58 rfl) ?_
                  refine xi_iload (pc' := 161) (x := 243) kc_58_159 rfl rfl ?_
                  refine xi_iconst (pc' := 162) (v := 3) kc_58_161 rfl rfl ?_
                  refine xi_imul (pc' := 163) (v := 729) kc_58_162 rfl rfl ?_
                  refine xi_istore (pc' := 165) (lv' := [(5, .int 729), (4, .int x4), (9, .int v64), (8, .int v57), (7, .int v54), (0, .ref 115), (2, .int x2), (3, .int x3), (6, .int 5)]) kc_58_163 rfl rfl (xm_lt ml_58 rfl) ?_
                  refine xi_iinc (pc' := 168) (x := 5) (v := 6) (lv' := [(6, .int 6), (5, .int 729), (4, .int x4), (9, .int v64), (8, .int v57), (7, .int v54), (0, .ref 115), (2, .int x2), (3, .int x3)]) kc_58_165 rfl rfl rfl rfl (xm_lt ml_58 rfl) ?_
                  refine xi_goto (pc' := 62) kc_58_168 rfl ?_
                  have zc6 : (6 : Int32).toInt = 6 := by decide
                  have zc729 : (729 : Int32).toInt = 729 := by decide
                  refine xw_lv (b := [(0, .ref 115), (2, .int x2), (3, .int x3), (4, .int x4), (5, .int 729), (6, .int 6)]) (lvS_cons (lvS_cons (lvS_cons (lvS_cons (lvS_cons (lvS_cons (lvS_nil (show ([6, 5, 4, 9, 8, 7, 0, 2, 3] : List Nat).Nodup by decide)) rfl) rfl) rfl) rfl) rfl) rfl) ?_
                  exact i16 x2 x3 x4 hh29 (by omega) (by omega) K31 (by omega)
                · refine xi_cmf (pc' := 150) kc_58_147 rfl (xc_ge_f (X := v64.toInt) (Y := x4.toInt) rfl rfl (by omega)) ?_
                  refine xi_iload (pc' := 152) (x := v64) kc_58_150 rfl rfl ?_
                  refine xi_goto (pc' := 157) kc_58_152 rfl ?_
                  refine xi_istore (pc' := 159) (lv' := [(4, .int v64), (9, .int v64), (8, .int v57), (7, .int v54), (0, .ref 115), (2, .int x2), (3, .int x3), (5, .int 243), (6, .int 5)]) kc_58_157 rfl rfl (xm_lt ml_58 rfl) ?_
                  refine xi_iload (pc' := 161) (x := 243) kc_58_159 rfl rfl ?_
                  refine xi_iconst (pc' := 162) (v := 3) kc_58_161 rfl rfl ?_
                  refine xi_imul (pc' := 163) (v := 729) kc_58_162 rfl rfl ?_
                  refine xi_istore (pc' := 165) (lv' := [(5, .int 729), (4, .int v64), (9, .int v64), (8, .int v57), (7, .int v54), (0, .ref 115), (2, .int x2), (3, .int x3), (6, .int 5)]) kc_58_163 rfl rfl (xm_lt ml_58 rfl) ?_
                  refine xi_iinc (pc' := 168) (x := 5) (v := 6) (lv' := [(6, .int 6), (5, .int 729), (4, .int v64), (9, .int v64), (8, .int v57), (7, .int v54), (0, .ref 115), (2, .int x2), (3, .int x3)]) kc_58_165 rfl rfl rfl rfl (xm_lt ml_58 rfl) ?_
                  refine xi_goto (pc' := 62) kc_58_168 rfl ?_
                  have zc6 : (6 : Int32).toInt = 6 := by decide
                  have zc729 : (729 : Int32).toInt = 729 := by decide
                  refine xw_lv (b := [(0, .ref 115), (2, .int x2), (3, .int x3), (4, .int v64), (5, .int 729), (6, .int 6)]) (lvS_cons (lvS_cons (lvS_cons (lvS_cons (lvS_cons (lvS_cons (lvS_nil (show ([6, 5, 4, 9, 8, 7, 0, 2, 3] : List Nat).Nodup by decide)) rfl) rfl) rfl) rfl) rfl) rfl) ?_
                  exact i16 x2 x3 v64 hh29 (by omega) (by omega) K31 (by omega)
        · refine xi_ift (pc' := 159) kc_58_77 rfl (xc_ne_t (X := v26.toInt) (Y := 0) rfl (by decide) (by omega)) ?_
          refine xi_iload (pc' := 161) (x := 243) kc_58_159 rfl rfl ?_
          refine xi_iconst (pc' := 162) (v := 3) kc_58_161 rfl rfl ?_
          refine xi_imul (pc' := 163) (v := 729) kc_58_162 rfl rfl ?_
          refine xi_istore (pc' := 165) (lv' := [(5, .int 729), (0, .ref 115), (2, .int x2), (3, .int x3), (4, .int x4), (6, .int 5)]) kc_58_163 rfl rfl (xm_lt ml_58 rfl) ?_
          refine xi_iinc (pc' := 168) (x := 5) (v := 6) (lv' := [(6, .int 6), (5, .int 729), (0, .ref 115), (2, .int x2), (3, .int x3), (4, .int x4)]) kc_58_165 rfl rfl rfl rfl (xm_lt ml_58 rfl) ?_
          refine xi_goto (pc' := 62) kc_58_168 rfl ?_
          have zc6 : (6 : Int32).toInt = 6 := by decide
          have zc729 : (729 : Int32).toInt = 729 := by decide
          refine xw_lv (b := [(0, .ref 115), (2, .int x2), (3, .int x3), (4, .int x4), (5, .int 729), (6, .int 6)]) (lvS_cons (lvS_cons (lvS_cons (lvS_cons (lvS_cons (lvS_cons (lvS_nil (show ([6, 5, 0, 2, 3, 4] : List Nat).Nodup by decide)) rfl) rfl) rfl) rfl) rfl) rfl) ?_
          exact i16 x2 x3 x4 h (by omega) (by omega) K (by omega)
    · intro x2 x3 x4 h b2 b3 K hm
      have rx4 := xc_rng x4
      refine xi_iload (pc' := 64) (x := 6) kc_58_62 rfl rfl ?_
      refine xi_aload_n (pc' := 65) (x := 115) kc_58_64 rfl rfl ?_
      obtain ⟨u1, u2, u3, u4, u5, u6, u7, u8, u9, u10, u11, u12, u13, bu1, bu2, bu3, bu4, bu5, bu6, bu7, bu8, bu9, bu10, bu11, bu12, bu13, A14⟩ := xq_115 K.1
      refine xi_getfield (pc' := 68) (v := .int u10) kc_58_65 rfl rfl rfl A14 rfl ?_
      by_cases c15 : u10.toInt ≤ 6
      · refine xi_cmt (pc' := 171) kc_58_68 rfl (xc_ge_t (X := 6) (Y := u10.toInt) (by decide) rfl (by omega)) ?_
        refine xi_aload_n (pc' := 172) (x := 115) kc_58_171 rfl rfl ?_
        refine xi_getfield (pc' := 175) (v := .ref 155) kc_58_172 rfl rfl rfl A14 rfl ?_
        refine xi_iload_n (pc' := 176) (x := x3) kc_58_175 rfl rfl ?_
        refine xi_iload (pc' := 178) (x := x4) kc_58_176 rfl rfl ?_
        by_cases c16 : 0 ≤ x4.toInt
        · refine xi_ift (pc' := 185) kc_58_178 rfl (xc_ge_t (X := x4.toInt) (Y := 0) rfl (by decide) (by omega)) ?_
          refine xi_iload (pc' := 187) (x := x4) kc_58_185 rfl rfl ?_
          obtain ⟨y17, A17, hy17, ry17⟩ := xk_arr K.1 xD_155
          obtain ⟨y18, s18, hy18, ry18⟩ := xj_set (v := x4) hy17 ry17 x3 (by first | omega | decide) (by first | omega | decide)
          refine xi_iastore (pc' := 188) (x' := y18) kc_58_187 rfl A17 rfl (xi_in (by omega) (by rw [hy17]; omega)) s18 (fun hh18 eh18 => ?_)
          have K19 := xk_pa K (xk_wa (by decide +kernel)) xD_155 hy18 ry18 eh18
          obtain ⟨v20, ev20⟩ : ∃ q : Int32, x3 + (-1) = q := ⟨_, rfl⟩
          have zv20 : v20.toInt = (x3.toInt + (-1)) := by rw [← ev20]; exact (xz_add (X := x3.toInt) (Y := (-1)) rfl (by decide) (by omega) (by omega)).trans (by omega)
          refine xi_iinc (pc' := 191) (x := x3) (v := v20) (lv' := [(3, .int v20), (0, .ref 115), (2, .int x2), (4, .int x4), (5, .int 729), (6, .int 6)]) kc_58_188 rfl rfl ev20 rfl (xm_lt ml_58 rfl) ?_
          refine xi_goto (pc' := 48) kc_58_191 rfl ?_
          refine xw_lv (b := [(0, .ref 115), (2, .int x2), (3, .int v20)]) (lvS_cons (lvS_cons (lvS_cons (lvS_nil (show ([3, 0, 2, 4, 5, 6] : List Nat).Nodup by decide)) rfl) rfl) rfl) ?_
          exact i9 x2 v20 hh18 (by omega) (by omega) K19 (by omega)
        · refine xi_iff (pc' := 181) kc_58_178 rfl (xc_ge_f (X := x4.toInt) (Y := 0) rfl (by decide) (by omega)) ?_
          refine xi_iconst (pc' := 182) (v := 0) kc_58_181 rfl rfl ?_
          refine xi_goto (pc' := 187) kc_58_182 rfl ?_
          obtain ⟨y21, A21, hy21, ry21⟩ := xk_arr K.1 xD_155
          obtain ⟨y22, s22, hy22, ry22⟩ := xj_set (v := 0) hy21 ry21 x3 (by first | omega | decide) (by first | omega | decide)
          refine xi_iastore (pc' := 188) (x' := y22) kc_58_187 rfl A21 rfl (xi_in (by omega) (by rw [hy21]; omega)) s22 (fun hh22 eh22 => ?_)
          have K23 := xk_pa K (xk_wa (by decide +kernel)) xD_155 hy22 ry22 eh22
          obtain ⟨v24, ev24⟩ : ∃ q : Int32, x3 + (-1) = q := ⟨_, rfl⟩
          have zv24 : v24.toInt = (x3.toInt + (-1)) := by rw [← ev24]; exact (xz_add (X := x3.toInt) (Y := (-1)) rfl (by decide) (by omega) (by omega)).trans (by omega)
          refine xi_iinc (pc' := 191) (x := x3) (v := v24) (lv' := [(3, .int v24), (0, .ref 115), (2, .int x2), (4, .int x4), (5, .int 729), (6, .int 6)]) kc_58_188 rfl rfl ev24 rfl (xm_lt ml_58 rfl) ?_
          refine xi_goto (pc' := 48) kc_58_191 rfl ?_
          refine xw_lv (b := [(0, .ref 115), (2, .int x2), (3, .int v24)]) (lvS_cons (lvS_cons (lvS_cons (lvS_nil (show ([3, 0, 2, 4, 5, 6] : List Nat).Nodup by decide)) rfl) rfl) rfl) ?_
          exact i9 x2 v24 hh22 (by omega) (by omega) K23 (by omega)
      · refine xi_cmf (pc' := 71) kc_58_68 rfl (xc_ge_f (X := 6) (Y := u10.toInt) (by decide) rfl (by omega)) ?_
        refine xi_iload_n (pc' := 72) (x := x3) kc_58_71 rfl rfl ?_
        refine xi_iload (pc' := 74) (x := 729) kc_58_72 rfl rfl ?_
        obtain ⟨v25, ev25⟩ : ∃ q : Int32, x3 / 729 = q := ⟨_, rfl⟩
        have dv25 : v25.toInt = x3.toInt / 729 := by rw [← ev25]; exact xz_dive (X := x3.toInt) (Y := 729) rfl (by decide) (by omega) (by decide)
        have bv25 : 0 ≤ v25.toInt ∧ v25.toInt ≤ 8 := by omega
        refine xi_idiv (pc' := 75) (v := v25) kc_58_74 rfl ev25 (by decide) ?_
        refine xi_iconst (pc' := 76) (v := 3) kc_58_75 rfl rfl ?_
        obtain ⟨v26, ev26⟩ : ∃ q : Int32, v25 - v25 / 3 * 3 = q := ⟨_, rfl⟩
        have dv26 : v26.toInt = v25.toInt % 3 := by rw [← ev26]; exact xz_reme (X := v25.toInt) (Y := 3) rfl (by decide) (by omega) (by decide)
        have bv26 : 0 ≤ v26.toInt ∧ v26.toInt ≤ 2 := by omega
        refine xi_irem (pc' := 77) (v := v26) kc_58_76 rfl ev26 (by decide) ?_
        by_cases c27 : v26.toInt = 0
        · refine xi_iff (pc' := 80) kc_58_77 rfl (xc_ne_f (X := v26.toInt) (Y := 0) rfl (by decide) (by omega)) ?_
          refine xi_aload_n (pc' := 81) (x := 115) kc_58_80 rfl rfl ?_
          refine xi_iload_n (pc' := 82) (x := x3) kc_58_81 rfl rfl ?_
          refine xi_iload (pc' := 84) (x := 6) kc_58_82 rfl rfl ?_
          refine xi_virtual (mj := 59) (as := [.int x3, .int 6]) (st1 := []) (lv0 := [(0, .ref 115), (1, .int x3), (2, .int 6)]) kc_58_84 rfl rfl rfl rfl rfl A14 (Nat.le_of_ble_eq_true rfl) (hJ _ _ _ _ (by decide)) (xm_le ml_59 rfl) rfl ?_
          have zc6 : (6 : Int32).toInt = 6 := by decide
          refine mt_59_0 hJ hov1 hov2 (d := d + 3) (x1 := x3) (x2 := 6) K.1 (by first | omega | decide) (by first | omega | decide) (fun r28 hh29 br28 K30 => ?_)
          have K31 := xk_tr K K30 (xsb_ok _ _ (by decide +kernel))
          obtain ⟨u32, u33, u34, u35, u36, u37, u38, u39, u40, u41, u42, u43, u44, bu32, bu33, bu34, bu35, bu36, bu37, bu38, bu39, bu40, bu41, bu42, bu43, bu44, A45⟩ := xq_115 K31.1
          have e46 : u2 = u33 := xk_eqi (q := 1) K30 (by decide +kernel) A14 A45 rfl rfl
          subst e46
          have e47 : u5 = u36 := xk_eqi (q := 23) K30 (by decide +kernel) A14 A45 rfl rfl
          subst e47
          have e48 : u8 = u39 := xk_eqi (q := 34) K30 (by decide +kernel) A14 A45 rfl rfl
          subst e48
          have e49 : u6 = u37 := xk_eqi (q := 32) K30 (by decide +kernel) A14 A45 rfl rfl
          subst e49
          show xw J ov (d + 7) 58 (87, [(0, .ref 115), (2, .int x2), (3, .int x3), (4, .int x4), (5, .int 729), (6, .int 6)], [.int r28], hh29) _
          by_cases c50 : r28.toInt = 0
          · refine xi_ift (pc' := 159) kc_58_87 rfl (xc_eq_t (X := r28.toInt) (Y := 0) rfl (by decide) (by omega)) ?_
            refine xi_iload (pc' := 161) (x := 729) kc_58_159 rfl rfl ?_
            refine xi_iconst (pc' := 162) (v := 3) kc_58_161 rfl rfl ?_
            refine xi_imul (pc' := 163) (v := 2187) kc_58_162 rfl rfl ?_
            refine xi_istore (pc' := 165) (lv' := [(5, .int 2187), (0, .ref 115), (2, .int x2), (3, .int x3), (4, .int x4), (6, .int 6)]) kc_58_163 rfl rfl (xm_lt ml_58 rfl) ?_
            refine xi_iinc (pc' := 168) (x := 6) (v := 7) (lv' := [(6, .int 7), (5, .int 2187), (0, .ref 115), (2, .int x2), (3, .int x3), (4, .int x4)]) kc_58_165 rfl rfl rfl rfl (xm_lt ml_58 rfl) ?_
            refine xi_goto (pc' := 62) kc_58_168 rfl ?_
            have zc7 : (7 : Int32).toInt = 7 := by decide
            have zc2187 : (2187 : Int32).toInt = 2187 := by decide
            refine xw_lv (b := [(0, .ref 115), (2, .int x2), (3, .int x3), (4, .int x4), (5, .int 2187), (6, .int 7)]) (lvS_cons (lvS_cons (lvS_cons (lvS_cons (lvS_cons (lvS_cons (lvS_nil (show ([6, 5, 0, 2, 3, 4] : List Nat).Nodup by decide)) rfl) rfl) rfl) rfl) rfl) rfl) ?_
            exact i17 x2 x3 x4 hh29 (by omega) (by omega) K31 (by omega)
          · refine xi_iff (pc' := 90) kc_58_87 rfl (xc_eq_f (X := r28.toInt) (Y := 0) rfl (by decide) (by omega)) ?_
            refine xi_aload_n (pc' := 91) (x := 115) kc_58_90 rfl rfl ?_
            refine xi_getfield (pc' := 94) (v := .ref 155) kc_58_91 rfl rfl rfl A45 rfl ?_
            refine xi_iload_n (pc' := 95) (x := x3) kc_58_94 rfl rfl ?_
            refine xi_iload (pc' := 97) (x := 729) kc_58_95 rfl rfl ?_
            obtain ⟨v51, ev51⟩ : ∃ q : Int32, x3 + 729 = q := ⟨_, rfl⟩
            have zv51 : v51.toInt = (x3.toInt + 729) := by rw [← ev51]; exact (xz_add (X := x3.toInt) (Y := 729) rfl (by decide) (by omega) (by omega)).trans (by omega)
            refine xi_iadd (pc' := 98) (v := v51) kc_58_97 rfl ev51 ?_
            have t52 : (-729) ≤ x3.toInt ∧ x3.toInt ≤ 5831 := by omega
            obtain ⟨y53, A53, hy53, ry53⟩ := xk_arr K31.1 xD_155
            obtain ⟨v54, ev54, bv54, dv54⟩ := xj_get hy53 ry53 (i := v51) (by rw [zv51]; omega) (by rw [zv51]; omega)
            refine xi_iaload (pc' := 99) (v := v54) kc_58_98 rfl A53 (by decide) rfl (xi_in (by rw [zv51]; omega) (by rw [hy53]; rw [zv51]; omega)) ev54 ?_
            refine xi_istore (pc' := 101) (lv' := [(7, .int v54), (0, .ref 115), (2, .int x2), (3, .int x3), (4, .int x4), (5, .int 729), (6, .int 6)]) kc_58_99 rfl rfl (xm_lt ml_58 rfl) ?_
            refine xi_aload_n (pc' := 102) (x := 115) kc_58_101 rfl rfl ?_
            refine xi_getfield (pc' := 105) (v := .ref 155) kc_58_102 rfl rfl rfl A45 rfl ?_
            refine xi_iload_n (pc' := 106) (x := x3) kc_58_105 rfl rfl ?_
            refine xi_iconst (pc' := 107) (v := 2) kc_58_106 rfl rfl ?_
            refine xi_iload (pc' := 109) (x := 729) kc_58_107 rfl rfl ?_
            refine xi_imul (pc' := 110) (v := 1458) kc_58_109 rfl rfl ?_
            obtain ⟨v55, ev55⟩ : ∃ q : Int32, x3 + 1458 = q := ⟨_, rfl⟩
            have zv55 : v55.toInt = (x3.toInt + 1458) := by rw [← ev55]; exact (xz_add (X := x3.toInt) (Y := 1458) rfl (by decide) (by omega) (by omega)).trans (by omega)
            refine xi_iadd (pc' := 111) (v := v55) kc_58_110 rfl ev55 ?_
            have t56 : (-1458) ≤ x3.toInt ∧ x3.toInt ≤ 5102 := by omega
            obtain ⟨v57, ev57, bv57, dv57⟩ := xj_get hy53 ry53 (i := v55) (by rw [zv55]; omega) (by rw [zv55]; omega)
            refine xi_iaload (pc' := 112) (v := v57) kc_58_111 rfl A53 (by decide) rfl (xi_in (by rw [zv55]; omega) (by rw [hy53]; rw [zv55]; omega)) ev57 ?_
            refine xi_istore (pc' := 114) (lv' := [(8, .int v57), (7, .int v54), (0, .ref 115), (2, .int x2), (3, .int x3), (4, .int x4), (5, .int 729), (6, .int 6)]) kc_58_112 rfl rfl (xm_lt ml_58 rfl) ?_
            refine xi_aload_n (pc' := 115) (x := 115) kc_58_114 rfl rfl ?_
            refine xi_getfield (pc' := 118) (v := .ref 153) kc_58_115 rfl rfl rfl A45 rfl ?_
            refine xi_iload (pc' := 120) (x := 6) kc_58_118 rfl rfl ?_
            obtain ⟨y58, A58, hy58, ry58⟩ := xk_arr K31.1 xD_153
            obtain ⟨v59, ev59, bv59, dv59⟩ := xj_get hy58 ry58 (i := 6) (by decide) (by decide)
            refine xi_iaload (pc' := 121) (v := v59) kc_58_120 rfl A58 (by decide) rfl (xi_in (by decide) (by rw [hy58]; decide)) ev59 ?_
            refine xi_iload (pc' := 123) (x := v54) kc_58_121 rfl rfl ?_
            refine xi_iload (pc' := 125) (x := v57) kc_58_123 rfl rfl ?_
            by_cases c60 : v54.toInt ≤ v57.toInt
            · refine xi_cmt (pc' := 133) kc_58_125 rfl (xc_le_t (X := v54.toInt) (Y := v57.toInt) rfl rfl (by omega)) ?_
              refine xi_iload (pc' := 135) (x := v57) kc_58_133 rfl rfl ?_
              obtain ⟨v61, ev61⟩ : ∃ q : Int32, (v59 : Int32) + v57 = q := ⟨_, rfl⟩
              have rv61 := xc_rng v61
              refine xi_iadd (pc' := 136) (v := v61) kc_58_135 rfl ev61 ?_
              refine xi_istore (pc' := 138) (lv' := [(9, .int v61), (8, .int v57), (7, .int v54), (0, .ref 115), (2, .int x2), (3, .int x3), (4, .int x4), (5, .int 729), (6, .int 6)]) kc_58_136 rfl rfl (xm_lt ml_58 rfl) ?_
              refine xi_iload (pc' := 140) (x := x4) kc_58_138 rfl rfl ?_
              by_cases c62 : x4.toInt < 0
              · refine xi_ift (pc' := 150) kc_58_140 rfl (xc_lt_t (X := x4.toInt) (Y := 0) rfl (by decide) (by omega)) ?_
                refine xi_iload (pc' := 152) (x := v61) kc_58_150 rfl rfl ?_
                refine xi_goto (pc' := 157) kc_58_152 rfl ?_
                refine xi_istore (pc' := 159) (lv' := [(4, .int v61), (9, .int v61), (8, .int v57), (7, .int v54), (0, .ref 115), (2, .int x2), (3, .int x3), (5, .int 729), (6, .int 6)]) kc_58_157 rfl rfl (xm_lt ml_58 rfl) ?_
                refine xi_iload (pc' := 161) (x := 729) kc_58_159 rfl rfl ?_
                refine xi_iconst (pc' := 162) (v := 3) kc_58_161 rfl rfl ?_
                refine xi_imul (pc' := 163) (v := 2187) kc_58_162 rfl rfl ?_
                refine xi_istore (pc' := 165) (lv' := [(5, .int 2187), (4, .int v61), (9, .int v61), (8, .int v57), (7, .int v54), (0, .ref 115), (2, .int x2), (3, .int x3), (6, .int 6)]) kc_58_163 rfl rfl (xm_lt ml_58 rfl) ?_
                refine xi_iinc (pc' := 168) (x := 6) (v := 7) (lv' := [(6, .int 7), (5, .int 2187), (4, .int v61), (9, .int v61), (8, .int v57), (7, .int v54), (0, .ref 115), (2, .int x2), (3, .int x3)]) kc_58_165 rfl rfl rfl rfl (xm_lt ml_58 rfl) ?_
                refine xi_goto (pc' := 62) kc_58_168 rfl ?_
                have zc7 : (7 : Int32).toInt = 7 := by decide
                have zc2187 : (2187 : Int32).toInt = 2187 := by decide
                refine xw_lv (b := [(0, .ref 115), (2, .int x2), (3, .int x3), (4, .int v61), (5, .int 2187), (6, .int 7)]) (lvS_cons (lvS_cons (lvS_cons (lvS_cons (lvS_cons (lvS_cons (lvS_nil (show ([6, 5, 4, 9, 8, 7, 0, 2, 3] : List Nat).Nodup by decide)) rfl) rfl) rfl) rfl) rfl) rfl) ?_
                exact i17 x2 x3 v61 hh29 (by omega) (by omega) K31 (by omega)
              · refine xi_iff (pc' := 143) kc_58_140 rfl (xc_lt_f (X := x4.toInt) (Y := 0) rfl (by decide) (by omega)) ?_
                refine xi_iload (pc' := 145) (x := v61) kc_58_143 rfl rfl ?_
                refine xi_iload (pc' := 147) (x := x4) kc_58_145 rfl rfl ?_
                by_cases c63 : x4.toInt ≤ v61.toInt
                · refine xi_cmt (pc' := 155) kc_58_147 rfl (xc_ge_t (X := v61.toInt) (Y := x4.toInt) rfl rfl (by omega)) ?_
                  refine xi_iload (pc' := 157) (x := x4) kc_58_155 rfl rfl ?_
                  refine xi_istore (pc' := 159) (lv' := [(4, .int x4), (9, .int v61), (8, .int v57), (7, .int v54), (0, .ref 115), (2, .int x2), (3, .int x3), (5, .int 729), (6, .int 6)]) kc_58_157 rfl rfl (xm_lt ml_58 rfl) ?_
                  refine xi_iload (pc' := 161) (x := 729) kc_58_159 rfl rfl ?_
                  refine xi_iconst (pc' := 162) (v := 3) kc_58_161 rfl rfl ?_
                  refine xi_imul (pc' := 163) (v := 2187) kc_58_162 rfl rfl ?_
                  refine xi_istore (pc' := 165) (lv' := [(5, .int 2187), (4, .int x4), (9, .int v61), (8, .int v57), (7, .int v54), (0, .ref 115), (2, .int x2), (3, .int x3), (6, .int 6)]) kc_58_163 rfl rfl (xm_lt ml_58 rfl) ?_
                  refine xi_iinc (pc' := 168) (x := 6) (v := 7) (lv' := [(6, .int 7), (5, .int 2187), (4, .int x4), (9, .int v61), (8, .int v57), (7, .int v54), (0, .ref 115), (2, .int x2), (3, .int x3)]) kc_58_165 rfl rfl rfl rfl (xm_lt ml_58 rfl) ?_
                  refine xi_goto (pc' := 62) kc_58_168 rfl ?_
                  have zc7 : (7 : Int32).toInt = 7 := by decide
                  have zc2187 : (2187 : Int32).toInt = 2187 := by decide
                  refine xw_lv (b := [(0, .ref 115), (2, .int x2), (3, .int x3), (4, .int x4), (5, .int 2187), (6, .int 7)]) (lvS_cons (lvS_cons (lvS_cons (lvS_cons (lvS_cons (lvS_cons (lvS_nil (show ([6, 5, 4, 9, 8, 7, 0, 2, 3] : List Nat).Nodup by decide)) rfl) rfl) rfl) rfl) rfl) rfl) ?_
                  exact i17 x2 x3 x4 hh29 (by omega) (by omega) K31 (by omega)
                · refine xi_cmf (pc' := 150) kc_58_147 rfl (xc_ge_f (X := v61.toInt) (Y := x4.toInt) rfl rfl (by omega)) ?_
                  refine xi_iload (pc' := 152) (x := v61) kc_58_150 rfl rfl ?_
                  refine xi_goto (pc' := 157) kc_58_152 rfl ?_
                  refine xi_istore (pc' := 159) (lv' := [(4, .int v61), (9, .int v61), (8, .int v57), (7, .int v54), (0, .ref 115), (2, .int x2), (3, .int x3), (5, .int 729), (6, .int 6)]) kc_58_157 rfl rfl (xm_lt ml_58 rfl) ?_
                  refine xi_iload (pc' := 161) (x := 729) kc_58_159 rfl rfl ?_
                  refine xi_iconst (pc' := 162) (v := 3) kc_58_161 rfl rfl ?_
                  refine xi_imul (pc' := 163) (v := 2187) kc_58_162 rfl rfl ?_
                  refine xi_istore (pc' := 165) (lv' := [(5, .int 2187), (4, .int v61), (9, .int v61), (8, .int v57), (7, .int v54), (0, .ref 115), (2, .int x2), (3, .int x3), (6, .int 6)]) kc_58_163 rfl rfl (xm_lt ml_58 rfl) ?_
                  refine xi_iinc (pc' := 168) (x := 6) (v := 7) (lv' := [(6, .int 7), (5, .int 2187), (4, .int v61), (9, .int v61), (8, .int v57), (7, .int v54), (0, .ref 115), (2, .int x2), (3, .int x3)]) kc_58_165 rfl rfl rfl rfl (xm_lt ml_58 rfl) ?_
                  refine xi_goto (pc' := 62) kc_58_168 rfl ?_
                  have zc7 : (7 : Int32).toInt = 7 := by decide
                  have zc2187 : (2187 : Int32).toInt = 2187 := by decide
                  refine xw_lv (b := [(0, .ref 115), (2, .int x2), (3, .int x3), (4, .int v61), (5, .int 2187), (6, .int 7)]) (lvS_cons (lvS_cons (lvS_cons (lvS_cons (lvS_cons (lvS_cons (lvS_nil (show ([6, 5, 4, 9, 8, 7, 0, 2, 3] : List Nat).Nodup by decide)) rfl) rfl) rfl) rfl) rfl) rfl) ?_
                  exact i17 x2 x3 v61 hh29 (by omega) (by omega) K31 (by omega)
            · refine xi_cmf (pc' := 128) kc_58_125 rfl (xc_le_f (X := v54.toInt) (Y := v57.toInt) rfl rfl (by omega)) ?_
              refine xi_iload (pc' := 130) (x := v54) kc_58_128 rfl rfl ?_
              refine xi_goto (pc' := 135) kc_58_130 rfl ?_
              obtain ⟨v64, ev64⟩ : ∃ q : Int32, (v59 : Int32) + v54 = q := ⟨_, rfl⟩
              have rv64 := xc_rng v64
              refine xi_iadd (pc' := 136) (v := v64) kc_58_135 rfl ev64 ?_
              refine xi_istore (pc' := 138) (lv' := [(9, .int v64), (8, .int v57), (7, .int v54), (0, .ref 115), (2, .int x2), (3, .int x3), (4, .int x4), (5, .int 729), (6, .int 6)]) kc_58_136 rfl rfl (xm_lt ml_58 rfl) ?_
              refine xi_iload (pc' := 140) (x := x4) kc_58_138 rfl rfl ?_
              by_cases c65 : x4.toInt < 0
              · refine xi_ift (pc' := 150) kc_58_140 rfl (xc_lt_t (X := x4.toInt) (Y := 0) rfl (by decide) (by omega)) ?_
                refine xi_iload (pc' := 152) (x := v64) kc_58_150 rfl rfl ?_
                refine xi_goto (pc' := 157) kc_58_152 rfl ?_
                refine xi_istore (pc' := 159) (lv' := [(4, .int v64), (9, .int v64), (8, .int v57), (7, .int v54), (0, .ref 115), (2, .int x2), (3, .int x3), (5, .int 729), (6, .int 6)]) kc_58_157 rfl rfl (xm_lt ml_58 rfl) ?_
                refine xi_iload (pc' := 161) (x := 729) kc_58_159 rfl rfl ?_
                refine xi_iconst (pc' := 162) (v := 3) kc_58_161 rfl rfl ?_
                refine xi_imul (pc' := 163) (v := 2187) kc_58_162 rfl rfl ?_
                refine xi_istore (pc' := 165) (lv' := [(5, .int 2187), (4, .int v64), (9, .int v64), (8, .int v57), (7, .int v54), (0, .ref 115), (2, .int x2), (3, .int x3), (6, .int 6)]) kc_58_163 rfl rfl (xm_lt ml_58 rfl) ?_
                refine xi_iinc (pc' := 168) (x := 6) (v := 7) (lv' := [(6, .int 7), (5, .int 2187), (4, .int v64), (9, .int v64), (8, .int v57), (7, .int v54), (0, .ref 115), (2, .int x2), (3, .int x3)]) kc_58_165 rfl rfl rfl rfl (xm_lt ml_58 rfl) ?_
                refine xi_goto (pc' := 62) kc_58_168 rfl ?_
                have zc7 : (7 : Int32).toInt = 7 := by decide
                have zc2187 : (2187 : Int32).toInt = 2187 := by decide
                refine xw_lv (b := [(0, .ref 115), (2, .int x2), (3, .int x3), (4, .int v64), (5, .int 2187), (6, .int 7)]) (lvS_cons (lvS_cons (lvS_cons (lvS_cons (lvS_cons (lvS_cons (lvS_nil (show ([6, 5, 4, 9, 8, 7, 0, 2, 3] : List Nat).Nodup by decide)) rfl) rfl) rfl) rfl) rfl) rfl) ?_
                exact i17 x2 x3 v64 hh29 (by omega) (by omega) K31 (by omega)
              · refine xi_iff (pc' := 143) kc_58_140 rfl (xc_lt_f (X := x4.toInt) (Y := 0) rfl (by decide) (by omega)) ?_
                refine xi_iload (pc' := 145) (x := v64) kc_58_143 rfl rfl ?_
                refine xi_iload (pc' := 147) (x := x4) kc_58_145 rfl rfl ?_
                by_cases c66 : x4.toInt ≤ v64.toInt
                · refine xi_cmt (pc' := 155) kc_58_147 rfl (xc_ge_t (X := v64.toInt) (Y := x4.toInt) rfl rfl (by omega)) ?_
                  refine xi_iload (pc' := 157) (x := x4) kc_58_155 rfl rfl ?_
                  refine xi_istore (pc' := 159) (lv' := [(4, .int x4), (9, .int v64), (8, .int v57), (7, .int v54), (0, .ref 115), (2, .int x2), (3, .int x3), (5, .int 729), (6, .int 6)]) kc_58_157 rfl rfl (xm_lt ml_58 rfl) ?_
                  refine xi_iload (pc' := 161) (x := 729) kc_58_159 rfl rfl ?_
                  refine xi_iconst (pc' := 162) (v := 3) kc_58_161 rfl rfl ?_
                  refine xi_imul (pc' := 163) (v := 2187) kc_58_162 rfl rfl ?_
                  refine xi_istore (pc' := 165) (lv' := [(5, .int 2187), (4, .int x4), (9, .int v64), (8, .int v57), (7, .int v54), (0, .ref 115), (2, .int x2), (3, .int x3), (6, .int 6)]) kc_58_163 rfl rfl (xm_lt ml_58 rfl) ?_
                  refine xi_iinc (pc' := 168) (x := 6) (v := 7) (lv' := [(6, .int 7), (5, .int 2187), (4, .int x4), (9, .int v64), (8, .int v57), (7, .int v54), (0, .ref 115), (2, .int x2), (3, .int x3)]) kc_58_165 rfl rfl rfl rfl (xm_lt ml_58 rfl) ?_
                  refine xi_goto (pc' := 62) kc_58_168 rfl ?_
                  have zc7 : (7 : Int32).toInt = 7 := by decide
                  have zc2187 : (2187 : Int32).toInt = 2187 := by decide
                  refine xw_lv (b := [(0, .ref 115), (2, .int x2), (3, .int x3), (4, .int x4), (5, .int 2187), (6, .int 7)]) (lvS_cons (lvS_cons (lvS_cons (lvS_cons (lvS_cons (lvS_cons (lvS_nil (show ([6, 5, 4, 9, 8, 7, 0, 2, 3] : List Nat).Nodup by decide)) rfl) rfl) rfl) rfl) rfl) rfl) ?_
                  exact i17 x2 x3 x4 hh29 (by omega) (by omega) K31 (by omega)
                · refine xi_cmf (pc' := 150) kc_58_147 rfl (xc_ge_f (X := v64.toInt) (Y := x4.toInt) rfl rfl (by omega)) ?_
                  refine xi_iload (pc' := 152) (x := v64) kc_58_150 rfl rfl ?_
                  refine xi_goto (pc' := 157) kc_58_152 rfl ?_
                  refine xi_istore (pc' := 159) (lv' := [(4, .int v64), (9, .int v64), (8, .int v57), (7, .int v54), (0, .ref 115), (2, .int x2), (3, .int x3), (5, .int 729), (6, .int 6)]) kc_58_157 rfl rfl (xm_lt ml_58 rfl) ?_
                  refine xi_iload (pc' := 161) (x := 729) kc_58_159 rfl rfl ?_
                  refine xi_iconst (pc' := 162) (v := 3) kc_58_161 rfl rfl ?_
                  refine xi_imul (pc' := 163) (v := 2187) kc_58_162 rfl rfl ?_
                  refine xi_istore (pc' := 165) (lv' := [(5, .int 2187), (4, .int v64), (9, .int v64), (8, .int v57), (7, .int v54), (0, .ref 115), (2, .int x2), (3, .int x3), (6, .int 6)]) kc_58_163 rfl rfl (xm_lt ml_58 rfl) ?_
                  refine xi_iinc (pc' := 168) (x := 6) (v := 7) (lv' := [(6, .int 7), (5, .int 2187), (4, .int v64), (9, .int v64), (8, .int v57), (7, .int v54), (0, .ref 115), (2, .int x2), (3, .int x3)]) kc_58_165 rfl rfl rfl rfl (xm_lt ml_58 rfl) ?_
                  refine xi_goto (pc' := 62) kc_58_168 rfl ?_
                  have zc7 : (7 : Int32).toInt = 7 := by decide
                  have zc2187 : (2187 : Int32).toInt = 2187 := by decide
                  refine xw_lv (b := [(0, .ref 115), (2, .int x2), (3, .int x3), (4, .int v64), (5, .int 2187), (6, .int 7)]) (lvS_cons (lvS_cons (lvS_cons (lvS_cons (lvS_cons (lvS_cons (lvS_nil (show ([6, 5, 4, 9, 8, 7, 0, 2, 3] : List Nat).Nodup by decide)) rfl) rfl) rfl) rfl) rfl) rfl) ?_
                  exact i17 x2 x3 v64 hh29 (by omega) (by omega) K31 (by omega)
        · refine xi_ift (pc' := 159) kc_58_77 rfl (xc_ne_t (X := v26.toInt) (Y := 0) rfl (by decide) (by omega)) ?_
          refine xi_iload (pc' := 161) (x := 729) kc_58_159 rfl rfl ?_
          refine xi_iconst (pc' := 162) (v := 3) kc_58_161 rfl rfl ?_
          refine xi_imul (pc' := 163) (v := 2187) kc_58_162 rfl rfl ?_
          refine xi_istore (pc' := 165) (lv' := [(5, .int 2187), (0, .ref 115), (2, .int x2), (3, .int x3), (4, .int x4), (6, .int 6)]) kc_58_163 rfl rfl (xm_lt ml_58 rfl) ?_
          refine xi_iinc (pc' := 168) (x := 6) (v := 7) (lv' := [(6, .int 7), (5, .int 2187), (0, .ref 115), (2, .int x2), (3, .int x3), (4, .int x4)]) kc_58_165 rfl rfl rfl rfl (xm_lt ml_58 rfl) ?_
          refine xi_goto (pc' := 62) kc_58_168 rfl ?_
          have zc7 : (7 : Int32).toInt = 7 := by decide
          have zc2187 : (2187 : Int32).toInt = 2187 := by decide
          refine xw_lv (b := [(0, .ref 115), (2, .int x2), (3, .int x3), (4, .int x4), (5, .int 2187), (6, .int 7)]) (lvS_cons (lvS_cons (lvS_cons (lvS_cons (lvS_cons (lvS_cons (lvS_nil (show ([6, 5, 0, 2, 3, 4] : List Nat).Nodup by decide)) rfl) rfl) rfl) rfl) rfl) rfl) ?_
          exact i17 x2 x3 x4 h (by omega) (by omega) K (by omega)
    · intro x2 x3 x4 h b2 b3 K hm
      have rx4 := xc_rng x4
      refine xi_iload (pc' := 64) (x := 7) kc_58_62 rfl rfl ?_
      refine xi_aload_n (pc' := 65) (x := 115) kc_58_64 rfl rfl ?_
      obtain ⟨u1, u2, u3, u4, u5, u6, u7, u8, u9, u10, u11, u12, u13, bu1, bu2, bu3, bu4, bu5, bu6, bu7, bu8, bu9, bu10, bu11, bu12, bu13, A14⟩ := xq_115 K.1
      refine xi_getfield (pc' := 68) (v := .int u10) kc_58_65 rfl rfl rfl A14 rfl ?_
      by_cases c15 : u10.toInt ≤ 7
      · refine xi_cmt (pc' := 171) kc_58_68 rfl (xc_ge_t (X := 7) (Y := u10.toInt) (by decide) rfl (by omega)) ?_
        refine xi_aload_n (pc' := 172) (x := 115) kc_58_171 rfl rfl ?_
        refine xi_getfield (pc' := 175) (v := .ref 155) kc_58_172 rfl rfl rfl A14 rfl ?_
        refine xi_iload_n (pc' := 176) (x := x3) kc_58_175 rfl rfl ?_
        refine xi_iload (pc' := 178) (x := x4) kc_58_176 rfl rfl ?_
        by_cases c16 : 0 ≤ x4.toInt
        · refine xi_ift (pc' := 185) kc_58_178 rfl (xc_ge_t (X := x4.toInt) (Y := 0) rfl (by decide) (by omega)) ?_
          refine xi_iload (pc' := 187) (x := x4) kc_58_185 rfl rfl ?_
          obtain ⟨y17, A17, hy17, ry17⟩ := xk_arr K.1 xD_155
          obtain ⟨y18, s18, hy18, ry18⟩ := xj_set (v := x4) hy17 ry17 x3 (by first | omega | decide) (by first | omega | decide)
          refine xi_iastore (pc' := 188) (x' := y18) kc_58_187 rfl A17 rfl (xi_in (by omega) (by rw [hy17]; omega)) s18 (fun hh18 eh18 => ?_)
          have K19 := xk_pa K (xk_wa (by decide +kernel)) xD_155 hy18 ry18 eh18
          obtain ⟨v20, ev20⟩ : ∃ q : Int32, x3 + (-1) = q := ⟨_, rfl⟩
          have zv20 : v20.toInt = (x3.toInt + (-1)) := by rw [← ev20]; exact (xz_add (X := x3.toInt) (Y := (-1)) rfl (by decide) (by omega) (by omega)).trans (by omega)
          refine xi_iinc (pc' := 191) (x := x3) (v := v20) (lv' := [(3, .int v20), (0, .ref 115), (2, .int x2), (4, .int x4), (5, .int 2187), (6, .int 7)]) kc_58_188 rfl rfl ev20 rfl (xm_lt ml_58 rfl) ?_
          refine xi_goto (pc' := 48) kc_58_191 rfl ?_
          refine xw_lv (b := [(0, .ref 115), (2, .int x2), (3, .int v20)]) (lvS_cons (lvS_cons (lvS_cons (lvS_nil (show ([3, 0, 2, 4, 5, 6] : List Nat).Nodup by decide)) rfl) rfl) rfl) ?_
          exact i9 x2 v20 hh18 (by omega) (by omega) K19 (by omega)
        · refine xi_iff (pc' := 181) kc_58_178 rfl (xc_ge_f (X := x4.toInt) (Y := 0) rfl (by decide) (by omega)) ?_
          refine xi_iconst (pc' := 182) (v := 0) kc_58_181 rfl rfl ?_
          refine xi_goto (pc' := 187) kc_58_182 rfl ?_
          obtain ⟨y21, A21, hy21, ry21⟩ := xk_arr K.1 xD_155
          obtain ⟨y22, s22, hy22, ry22⟩ := xj_set (v := 0) hy21 ry21 x3 (by first | omega | decide) (by first | omega | decide)
          refine xi_iastore (pc' := 188) (x' := y22) kc_58_187 rfl A21 rfl (xi_in (by omega) (by rw [hy21]; omega)) s22 (fun hh22 eh22 => ?_)
          have K23 := xk_pa K (xk_wa (by decide +kernel)) xD_155 hy22 ry22 eh22
          obtain ⟨v24, ev24⟩ : ∃ q : Int32, x3 + (-1) = q := ⟨_, rfl⟩
          have zv24 : v24.toInt = (x3.toInt + (-1)) := by rw [← ev24]; exact (xz_add (X := x3.toInt) (Y := (-1)) rfl (by decide) (by omega) (by omega)).trans (by omega)
          refine xi_iinc (pc' := 191) (x := x3) (v := v24) (lv' := [(3, .int v24), (0, .ref 115), (2, .int x2), (4, .int x4), (5, .int 2187), (6, .int 7)]) kc_58_188 rfl rfl ev24 rfl (xm_lt ml_58 rfl) ?_
          refine xi_goto (pc' := 48) kc_58_191 rfl ?_
          refine xw_lv (b := [(0, .ref 115), (2, .int x2), (3, .int v24)]) (lvS_cons (lvS_cons (lvS_cons (lvS_nil (show ([3, 0, 2, 4, 5, 6] : List Nat).Nodup by decide)) rfl) rfl) rfl) ?_
          exact i9 x2 v24 hh22 (by omega) (by omega) K23 (by omega)
      · refine xi_cmf (pc' := 71) kc_58_68 rfl (xc_ge_f (X := 7) (Y := u10.toInt) (by decide) rfl (by omega)) ?_
        refine xi_iload_n (pc' := 72) (x := x3) kc_58_71 rfl rfl ?_
        refine xi_iload (pc' := 74) (x := 2187) kc_58_72 rfl rfl ?_
        obtain ⟨v25, ev25⟩ : ∃ q : Int32, x3 / 2187 = q := ⟨_, rfl⟩
        have dv25 : v25.toInt = x3.toInt / 2187 := by rw [← ev25]; exact xz_dive (X := x3.toInt) (Y := 2187) rfl (by decide) (by omega) (by decide)
        have bv25 : 0 ≤ v25.toInt ∧ v25.toInt ≤ 2 := by omega
        refine xi_idiv (pc' := 75) (v := v25) kc_58_74 rfl ev25 (by decide) ?_
        refine xi_iconst (pc' := 76) (v := 3) kc_58_75 rfl rfl ?_
        obtain ⟨v26, ev26⟩ : ∃ q : Int32, v25 - v25 / 3 * 3 = q := ⟨_, rfl⟩
        have dv26 : v26.toInt = v25.toInt % 3 := by rw [← ev26]; exact xz_reme (X := v25.toInt) (Y := 3) rfl (by decide) (by omega) (by decide)
        have bv26 : 0 ≤ v26.toInt ∧ v26.toInt ≤ 2 := by omega
        refine xi_irem (pc' := 77) (v := v26) kc_58_76 rfl ev26 (by decide) ?_
        by_cases c27 : v26.toInt = 0
        · refine xi_iff (pc' := 80) kc_58_77 rfl (xc_ne_f (X := v26.toInt) (Y := 0) rfl (by decide) (by omega)) ?_
          refine xi_aload_n (pc' := 81) (x := 115) kc_58_80 rfl rfl ?_
          refine xi_iload_n (pc' := 82) (x := x3) kc_58_81 rfl rfl ?_
          refine xi_iload (pc' := 84) (x := 7) kc_58_82 rfl rfl ?_
          refine xi_virtual (mj := 59) (as := [.int x3, .int 7]) (st1 := []) (lv0 := [(0, .ref 115), (1, .int x3), (2, .int 7)]) kc_58_84 rfl rfl rfl rfl rfl A14 (Nat.le_of_ble_eq_true rfl) (hJ _ _ _ _ (by decide)) (xm_le ml_59 rfl) rfl ?_
          have zc7 : (7 : Int32).toInt = 7 := by decide
          refine mt_59_0 hJ hov1 hov2 (d := d + 3) (x1 := x3) (x2 := 7) K.1 (by first | omega | decide) (by first | omega | decide) (fun r28 hh29 br28 K30 => ?_)
          have K31 := xk_tr K K30 (xsb_ok _ _ (by decide +kernel))
          obtain ⟨u32, u33, u34, u35, u36, u37, u38, u39, u40, u41, u42, u43, u44, bu32, bu33, bu34, bu35, bu36, bu37, bu38, bu39, bu40, bu41, bu42, bu43, bu44, A45⟩ := xq_115 K31.1
          have e46 : u2 = u33 := xk_eqi (q := 1) K30 (by decide +kernel) A14 A45 rfl rfl
          subst e46
          have e47 : u5 = u36 := xk_eqi (q := 23) K30 (by decide +kernel) A14 A45 rfl rfl
          subst e47
          have e48 : u8 = u39 := xk_eqi (q := 34) K30 (by decide +kernel) A14 A45 rfl rfl
          subst e48
          have e49 : u6 = u37 := xk_eqi (q := 32) K30 (by decide +kernel) A14 A45 rfl rfl
          subst e49
          show xw J ov (d + 7) 58 (87, [(0, .ref 115), (2, .int x2), (3, .int x3), (4, .int x4), (5, .int 2187), (6, .int 7)], [.int r28], hh29) _
          by_cases c50 : r28.toInt = 0
          · refine xi_ift (pc' := 159) kc_58_87 rfl (xc_eq_t (X := r28.toInt) (Y := 0) rfl (by decide) (by omega)) ?_
            refine xi_iload (pc' := 161) (x := 2187) kc_58_159 rfl rfl ?_
            refine xi_iconst (pc' := 162) (v := 3) kc_58_161 rfl rfl ?_
            refine xi_imul (pc' := 163) (v := 6561) kc_58_162 rfl rfl ?_
            refine xi_istore (pc' := 165) (lv' := [(5, .int 6561), (0, .ref 115), (2, .int x2), (3, .int x3), (4, .int x4), (6, .int 7)]) kc_58_163 rfl rfl (xm_lt ml_58 rfl) ?_
            refine xi_iinc (pc' := 168) (x := 7) (v := 8) (lv' := [(6, .int 8), (5, .int 6561), (0, .ref 115), (2, .int x2), (3, .int x3), (4, .int x4)]) kc_58_165 rfl rfl rfl rfl (xm_lt ml_58 rfl) ?_
            refine xi_goto (pc' := 62) kc_58_168 rfl ?_
            have zc8 : (8 : Int32).toInt = 8 := by decide
            have zc6561 : (6561 : Int32).toInt = 6561 := by decide
            refine xw_lv (b := [(0, .ref 115), (2, .int x2), (3, .int x3), (4, .int x4), (5, .int 6561), (6, .int 8)]) (lvS_cons (lvS_cons (lvS_cons (lvS_cons (lvS_cons (lvS_cons (lvS_nil (show ([6, 5, 0, 2, 3, 4] : List Nat).Nodup by decide)) rfl) rfl) rfl) rfl) rfl) rfl) ?_
            exact i18 x2 x3 x4 hh29 (by omega) (by omega) K31 (by omega)
          · refine xi_iff (pc' := 90) kc_58_87 rfl (xc_eq_f (X := r28.toInt) (Y := 0) rfl (by decide) (by omega)) ?_
            refine xi_aload_n (pc' := 91) (x := 115) kc_58_90 rfl rfl ?_
            refine xi_getfield (pc' := 94) (v := .ref 155) kc_58_91 rfl rfl rfl A45 rfl ?_
            refine xi_iload_n (pc' := 95) (x := x3) kc_58_94 rfl rfl ?_
            refine xi_iload (pc' := 97) (x := 2187) kc_58_95 rfl rfl ?_
            obtain ⟨v51, ev51⟩ : ∃ q : Int32, x3 + 2187 = q := ⟨_, rfl⟩
            have zv51 : v51.toInt = (x3.toInt + 2187) := by rw [← ev51]; exact (xz_add (X := x3.toInt) (Y := 2187) rfl (by decide) (by omega) (by omega)).trans (by omega)
            refine xi_iadd (pc' := 98) (v := v51) kc_58_97 rfl ev51 ?_
            have t52 : (-2187) ≤ x3.toInt ∧ x3.toInt ≤ 4373 := by omega
            obtain ⟨y53, A53, hy53, ry53⟩ := xk_arr K31.1 xD_155
            obtain ⟨v54, ev54, bv54, dv54⟩ := xj_get hy53 ry53 (i := v51) (by rw [zv51]; omega) (by rw [zv51]; omega)
            refine xi_iaload (pc' := 99) (v := v54) kc_58_98 rfl A53 (by decide) rfl (xi_in (by rw [zv51]; omega) (by rw [hy53]; rw [zv51]; omega)) ev54 ?_
            refine xi_istore (pc' := 101) (lv' := [(7, .int v54), (0, .ref 115), (2, .int x2), (3, .int x3), (4, .int x4), (5, .int 2187), (6, .int 7)]) kc_58_99 rfl rfl (xm_lt ml_58 rfl) ?_
            refine xi_aload_n (pc' := 102) (x := 115) kc_58_101 rfl rfl ?_
            refine xi_getfield (pc' := 105) (v := .ref 155) kc_58_102 rfl rfl rfl A45 rfl ?_
            refine xi_iload_n (pc' := 106) (x := x3) kc_58_105 rfl rfl ?_
            refine xi_iconst (pc' := 107) (v := 2) kc_58_106 rfl rfl ?_
            refine xi_iload (pc' := 109) (x := 2187) kc_58_107 rfl rfl ?_
            refine xi_imul (pc' := 110) (v := 4374) kc_58_109 rfl rfl ?_
            obtain ⟨v55, ev55⟩ : ∃ q : Int32, x3 + 4374 = q := ⟨_, rfl⟩
            have zv55 : v55.toInt = (x3.toInt + 4374) := by rw [← ev55]; exact (xz_add (X := x3.toInt) (Y := 4374) rfl (by decide) (by omega) (by omega)).trans (by omega)
            refine xi_iadd (pc' := 111) (v := v55) kc_58_110 rfl ev55 ?_
            have t56 : (-4374) ≤ x3.toInt ∧ x3.toInt ≤ 2186 := by omega
            obtain ⟨v57, ev57, bv57, dv57⟩ := xj_get hy53 ry53 (i := v55) (by rw [zv55]; omega) (by rw [zv55]; omega)
            refine xi_iaload (pc' := 112) (v := v57) kc_58_111 rfl A53 (by decide) rfl (xi_in (by rw [zv55]; omega) (by rw [hy53]; rw [zv55]; omega)) ev57 ?_
            refine xi_istore (pc' := 114) (lv' := [(8, .int v57), (7, .int v54), (0, .ref 115), (2, .int x2), (3, .int x3), (4, .int x4), (5, .int 2187), (6, .int 7)]) kc_58_112 rfl rfl (xm_lt ml_58 rfl) ?_
            refine xi_aload_n (pc' := 115) (x := 115) kc_58_114 rfl rfl ?_
            refine xi_getfield (pc' := 118) (v := .ref 153) kc_58_115 rfl rfl rfl A45 rfl ?_
            refine xi_iload (pc' := 120) (x := 7) kc_58_118 rfl rfl ?_
            obtain ⟨y58, A58, hy58, ry58⟩ := xk_arr K31.1 xD_153
            obtain ⟨v59, ev59, bv59, dv59⟩ := xj_get hy58 ry58 (i := 7) (by decide) (by decide)
            refine xi_iaload (pc' := 121) (v := v59) kc_58_120 rfl A58 (by decide) rfl (xi_in (by decide) (by rw [hy58]; decide)) ev59 ?_
            refine xi_iload (pc' := 123) (x := v54) kc_58_121 rfl rfl ?_
            refine xi_iload (pc' := 125) (x := v57) kc_58_123 rfl rfl ?_
            by_cases c60 : v54.toInt ≤ v57.toInt
            · refine xi_cmt (pc' := 133) kc_58_125 rfl (xc_le_t (X := v54.toInt) (Y := v57.toInt) rfl rfl (by omega)) ?_
              refine xi_iload (pc' := 135) (x := v57) kc_58_133 rfl rfl ?_
              obtain ⟨v61, ev61⟩ : ∃ q : Int32, (v59 : Int32) + v57 = q := ⟨_, rfl⟩
              have rv61 := xc_rng v61
              refine xi_iadd (pc' := 136) (v := v61) kc_58_135 rfl ev61 ?_
              refine xi_istore (pc' := 138) (lv' := [(9, .int v61), (8, .int v57), (7, .int v54), (0, .ref 115), (2, .int x2), (3, .int x3), (4, .int x4), (5, .int 2187), (6, .int 7)]) kc_58_136 rfl rfl (xm_lt ml_58 rfl) ?_
              refine xi_iload (pc' := 140) (x := x4) kc_58_138 rfl rfl ?_
              by_cases c62 : x4.toInt < 0
              · refine xi_ift (pc' := 150) kc_58_140 rfl (xc_lt_t (X := x4.toInt) (Y := 0) rfl (by decide) (by omega)) ?_
                refine xi_iload (pc' := 152) (x := v61) kc_58_150 rfl rfl ?_
                refine xi_goto (pc' := 157) kc_58_152 rfl ?_
                refine xi_istore (pc' := 159) (lv' := [(4, .int v61), (9, .int v61), (8, .int v57), (7, .int v54), (0, .ref 115), (2, .int x2), (3, .int x3), (5, .int 2187), (6, .int 7)]) kc_58_157 rfl rfl (xm_lt ml_58 rfl) ?_
                refine xi_iload (pc' := 161) (x := 2187) kc_58_159 rfl rfl ?_
                refine xi_iconst (pc' := 162) (v := 3) kc_58_161 rfl rfl ?_
                refine xi_imul (pc' := 163) (v := 6561) kc_58_162 rfl rfl ?_
                refine xi_istore (pc' := 165) (lv' := [(5, .int 6561), (4, .int v61), (9, .int v61), (8, .int v57), (7, .int v54), (0, .ref 115), (2, .int x2), (3, .int x3), (6, .int 7)]) kc_58_163 rfl rfl (xm_lt ml_58 rfl) ?_
                refine xi_iinc (pc' := 168) (x := 7) (v := 8) (lv' := [(6, .int 8), (5, .int 6561), (4, .int v61), (9, .int v61), (8, .int v57), (7, .int v54), (0, .ref 115), (2, .int x2), (3, .int x3)]) kc_58_165 rfl rfl rfl rfl (xm_lt ml_58 rfl) ?_
                refine xi_goto (pc' := 62) kc_58_168 rfl ?_
                have zc8 : (8 : Int32).toInt = 8 := by decide
                have zc6561 : (6561 : Int32).toInt = 6561 := by decide
                refine xw_lv (b := [(0, .ref 115), (2, .int x2), (3, .int x3), (4, .int v61), (5, .int 6561), (6, .int 8)]) (lvS_cons (lvS_cons (lvS_cons (lvS_cons (lvS_cons (lvS_cons (lvS_nil (show ([6, 5, 4, 9, 8, 7, 0, 2, 3] : List Nat).Nodup by decide)) rfl) rfl) rfl) rfl) rfl) rfl) ?_
                exact i18 x2 x3 v61 hh29 (by omega) (by omega) K31 (by omega)
              · refine xi_iff (pc' := 143) kc_58_140 rfl (xc_lt_f (X := x4.toInt) (Y := 0) rfl (by decide) (by omega)) ?_
                refine xi_iload (pc' := 145) (x := v61) kc_58_143 rfl rfl ?_
                refine xi_iload (pc' := 147) (x := x4) kc_58_145 rfl rfl ?_
                by_cases c63 : x4.toInt ≤ v61.toInt
                · refine xi_cmt (pc' := 155) kc_58_147 rfl (xc_ge_t (X := v61.toInt) (Y := x4.toInt) rfl rfl (by omega)) ?_
                  refine xi_iload (pc' := 157) (x := x4) kc_58_155 rfl rfl ?_
                  refine xi_istore (pc' := 159) (lv' := [(4, .int x4), (9, .int v61), (8, .int v57), (7, .int v54), (0, .ref 115), (2, .int x2), (3, .int x3), (5, .int 2187), (6, .int 7)]) kc_58_157 rfl rfl (xm_lt ml_58 rfl) ?_
                  refine xi_iload (pc' := 161) (x := 2187) kc_58_159 rfl rfl ?_
                  refine xi_iconst (pc' := 162) (v := 3) kc_58_161 rfl rfl ?_
                  refine xi_imul (pc' := 163) (v := 6561) kc_58_162 rfl rfl ?_
                  refine xi_istore (pc' := 165) (lv' := [(5, .int 6561), (4, .int x4), (9, .int v61), (8, .int v57), (7, .int v54), (0, .ref 115), (2, .int x2), (3, .int x3), (6, .int 7)]) kc_58_163 rfl rfl (xm_lt ml_58 rfl) ?_
                  refine xi_iinc (pc' := 168) (x := 7) (v := 8) (lv' := [(6, .int 8), (5, .int 6561), (4, .int x4), (9, .int v61), (8, .int v57), (7, .int v54), (0, .ref 115), (2, .int x2), (3, .int x3)]) kc_58_165 rfl rfl rfl rfl (xm_lt ml_58 rfl) ?_
                  refine xi_goto (pc' := 62) kc_58_168 rfl ?_
                  have zc8 : (8 : Int32).toInt = 8 := by decide
                  have zc6561 : (6561 : Int32).toInt = 6561 := by decide
                  refine xw_lv (b := [(0, .ref 115), (2, .int x2), (3, .int x3), (4, .int x4), (5, .int 6561), (6, .int 8)]) (lvS_cons (lvS_cons (lvS_cons (lvS_cons (lvS_cons (lvS_cons (lvS_nil (show ([6, 5, 4, 9, 8, 7, 0, 2, 3] : List Nat).Nodup by decide)) rfl) rfl) rfl) rfl) rfl) rfl) ?_
                  exact i18 x2 x3 x4 hh29 (by omega) (by omega) K31 (by omega)
                · refine xi_cmf (pc' := 150) kc_58_147 rfl (xc_ge_f (X := v61.toInt) (Y := x4.toInt) rfl rfl (by omega)) ?_
                  refine xi_iload (pc' := 152) (x := v61) kc_58_150 rfl rfl ?_
                  refine xi_goto (pc' := 157) kc_58_152 rfl ?_
                  refine xi_istore (pc' := 159) (lv' := [(4, .int v61), (9, .int v61), (8, .int v57), (7, .int v54), (0, .ref 115), (2, .int x2), (3, .int x3), (5, .int 2187), (6, .int 7)]) kc_58_157 rfl rfl (xm_lt ml_58 rfl) ?_
                  refine xi_iload (pc' := 161) (x := 2187) kc_58_159 rfl rfl ?_
                  refine xi_iconst (pc' := 162) (v := 3) kc_58_161 rfl rfl ?_
                  refine xi_imul (pc' := 163) (v := 6561) kc_58_162 rfl rfl ?_
                  refine xi_istore (pc' := 165) (lv' := [(5, .int 6561), (4, .int v61), (9, .int v61), (8, .int v57), (7, .int v54), (0, .ref 115), (2, .int x2), (3, .int x3), (6, .int 7)]) kc_58_163 rfl rfl (xm_lt ml_58 rfl) ?_
                  refine xi_iinc (pc' := 168) (x := 7) (v := 8) (lv' := [(6, .int 8), (5, .int 6561), (4, .int v61), (9, .int v61), (8, .int v57), (7, .int v54), (0, .ref 115), (2, .int x2), (3, .int x3)]) kc_58_165 rfl rfl rfl rfl (xm_lt ml_58 rfl) ?_
                  refine xi_goto (pc' := 62) kc_58_168 rfl ?_
                  have zc8 : (8 : Int32).toInt = 8 := by decide
                  have zc6561 : (6561 : Int32).toInt = 6561 := by decide
                  refine xw_lv (b := [(0, .ref 115), (2, .int x2), (3, .int x3), (4, .int v61), (5, .int 6561), (6, .int 8)]) (lvS_cons (lvS_cons (lvS_cons (lvS_cons (lvS_cons (lvS_cons (lvS_nil (show ([6, 5, 4, 9, 8, 7, 0, 2, 3] : List Nat).Nodup by decide)) rfl) rfl) rfl) rfl) rfl) rfl) ?_
                  exact i18 x2 x3 v61 hh29 (by omega) (by omega) K31 (by omega)
            · refine xi_cmf (pc' := 128) kc_58_125 rfl (xc_le_f (X := v54.toInt) (Y := v57.toInt) rfl rfl (by omega)) ?_
              refine xi_iload (pc' := 130) (x := v54) kc_58_128 rfl rfl ?_
              refine xi_goto (pc' := 135) kc_58_130 rfl ?_
              obtain ⟨v64, ev64⟩ : ∃ q : Int32, (v59 : Int32) + v54 = q := ⟨_, rfl⟩
              have rv64 := xc_rng v64
              refine xi_iadd (pc' := 136) (v := v64) kc_58_135 rfl ev64 ?_
              refine xi_istore (pc' := 138) (lv' := [(9, .int v64), (8, .int v57), (7, .int v54), (0, .ref 115), (2, .int x2), (3, .int x3), (4, .int x4), (5, .int 2187), (6, .int 7)]) kc_58_136 rfl rfl (xm_lt ml_58 rfl) ?_
              refine xi_iload (pc' := 140) (x := x4) kc_58_138 rfl rfl ?_
              by_cases c65 : x4.toInt < 0
              · refine xi_ift (pc' := 150) kc_58_140 rfl (xc_lt_t (X := x4.toInt) (Y := 0) rfl (by decide) (by omega)) ?_
                refine xi_iload (pc' := 152) (x := v64) kc_58_150 rfl rfl ?_
                refine xi_goto (pc' := 157) kc_58_152 rfl ?_
                refine xi_istore (pc' := 159) (lv' := [(4, .int v64), (9, .int v64), (8, .int v57), (7, .int v54), (0, .ref 115), (2, .int x2), (3, .int x3), (5, .int 2187), (6, .int 7)]) kc_58_157 rfl rfl (xm_lt ml_58 rfl) ?_
                refine xi_iload (pc' := 161) (x := 2187) kc_58_159 rfl rfl ?_
                refine xi_iconst (pc' := 162) (v := 3) kc_58_161 rfl rfl ?_
                refine xi_imul (pc' := 163) (v := 6561) kc_58_162 rfl rfl ?_
                refine xi_istore (pc' := 165) (lv' := [(5, .int 6561), (4, .int v64), (9, .int v64), (8, .int v57), (7, .int v54), (0, .ref 115), (2, .int x2), (3, .int x3), (6, .int 7)]) kc_58_163 rfl rfl (xm_lt ml_58 rfl) ?_
                refine xi_iinc (pc' := 168) (x := 7) (v := 8) (lv' := [(6, .int 8), (5, .int 6561), (4, .int v64), (9, .int v64), (8, .int v57), (7, .int v54), (0, .ref 115), (2, .int x2), (3, .int x3)]) kc_58_165 rfl rfl rfl rfl (xm_lt ml_58 rfl) ?_
                refine xi_goto (pc' := 62) kc_58_168 rfl ?_
                have zc8 : (8 : Int32).toInt = 8 := by decide
                have zc6561 : (6561 : Int32).toInt = 6561 := by decide
                refine xw_lv (b := [(0, .ref 115), (2, .int x2), (3, .int x3), (4, .int v64), (5, .int 6561), (6, .int 8)]) (lvS_cons (lvS_cons (lvS_cons (lvS_cons (lvS_cons (lvS_cons (lvS_nil (show ([6, 5, 4, 9, 8, 7, 0, 2, 3] : List Nat).Nodup by decide)) rfl) rfl) rfl) rfl) rfl) rfl) ?_
                exact i18 x2 x3 v64 hh29 (by omega) (by omega) K31 (by omega)
              · refine xi_iff (pc' := 143) kc_58_140 rfl (xc_lt_f (X := x4.toInt) (Y := 0) rfl (by decide) (by omega)) ?_
                refine xi_iload (pc' := 145) (x := v64) kc_58_143 rfl rfl ?_
                refine xi_iload (pc' := 147) (x := x4) kc_58_145 rfl rfl ?_
                by_cases c66 : x4.toInt ≤ v64.toInt
                · refine xi_cmt (pc' := 155) kc_58_147 rfl (xc_ge_t (X := v64.toInt) (Y := x4.toInt) rfl rfl (by omega)) ?_
                  refine xi_iload (pc' := 157) (x := x4) kc_58_155 rfl rfl ?_
                  refine xi_istore (pc' := 159) (lv' := [(4, .int x4), (9, .int v64), (8, .int v57), (7, .int v54), (0, .ref 115), (2, .int x2), (3, .int x3), (5, .int 2187), (6, .int 7)]) kc_58_157 rfl rfl (xm_lt ml_58 rfl) ?_
                  refine xi_iload (pc' := 161) (x := 2187) kc_58_159 rfl rfl ?_
                  refine xi_iconst (pc' := 162) (v := 3) kc_58_161 rfl rfl ?_
                  refine xi_imul (pc' := 163) (v := 6561) kc_58_162 rfl rfl ?_
                  refine xi_istore (pc' := 165) (lv' := [(5, .int 6561), (4, .int x4), (9, .int v64), (8, .int v57), (7, .int v54), (0, .ref 115), (2, .int x2), (3, .int x3), (6, .int 7)]) kc_58_163 rfl rfl (xm_lt ml_58 rfl) ?_
                  refine xi_iinc (pc' := 168) (x := 7) (v := 8) (lv' := [(6, .int 8), (5, .int 6561), (4, .int x4), (9, .int v64), (8, .int v57), (7, .int v54), (0, .ref 115), (2, .int x2), (3, .int x3)]) kc_58_165 rfl rfl rfl rfl (xm_lt ml_58 rfl) ?_
                  refine xi_goto (pc' := 62) kc_58_168 rfl ?_
                  have zc8 : (8 : Int32).toInt = 8 := by decide
                  have zc6561 : (6561 : Int32).toInt = 6561 := by decide
                  refine xw_lv (b := [(0, .ref 115), (2, .int x2), (3, .int x3), (4, .int x4), (5, .int 6561), (6, .int 8)]) (lvS_cons (lvS_cons (lvS_cons (lvS_cons (lvS_cons (lvS_cons (lvS_nil (show ([6, 5, 4, 9, 8, 7, 0, 2, 3] : List Nat).Nodup by decide)) rfl) rfl) rfl) rfl) rfl) rfl) ?_
                  exact i18 x2 x3 x4 hh29 (by omega) (by omega) K31 (by omega)
                · refine xi_cmf (pc' := 150) kc_58_147 rfl (xc_ge_f (X := v64.toInt) (Y := x4.toInt) rfl rfl (by omega)) ?_
                  refine xi_iload (pc' := 152) (x := v64) kc_58_150 rfl rfl ?_
                  refine xi_goto (pc' := 157) kc_58_152 rfl ?_
                  refine xi_istore (pc' := 159) (lv' := [(4, .int v64), (9, .int v64), (8, .int v57), (7, .int v54), (0, .ref 115), (2, .int x2), (3, .int x3), (5, .int 2187), (6, .int 7)]) kc_58_157 rfl rfl (xm_lt ml_58 rfl) ?_
                  refine xi_iload (pc' := 161) (x := 2187) kc_58_159 rfl rfl ?_
                  refine xi_iconst (pc' := 162) (v := 3) kc_58_161 rfl rfl ?_
                  refine xi_imul (pc' := 163) (v := 6561) kc_58_162 rfl rfl ?_
                  refine xi_istore (pc' := 165) (lv' := [(5, .int 6561), (4, .int v64), (9, .int v64), (8, .int v57), (7, .int v54), (0, .ref 115), (2, .int x2), (3, .int x3), (6, .int 7)]) kc_58_163 rfl rfl (xm_lt ml_58 rfl) ?_
                  refine xi_iinc (pc' := 168) (x := 7) (v := 8) (lv' := [(6, .int 8), (5, .int 6561), (4, .int v64), (9, .int v64), (8, .int v57), (7, .int v54), (0, .ref 115), (2, .int x2), (3, .int x3)]) kc_58_165 rfl rfl rfl rfl (xm_lt ml_58 rfl) ?_
                  refine xi_goto (pc' := 62) kc_58_168 rfl ?_
                  have zc8 : (8 : Int32).toInt = 8 := by decide
                  have zc6561 : (6561 : Int32).toInt = 6561 := by decide
                  refine xw_lv (b := [(0, .ref 115), (2, .int x2), (3, .int x3), (4, .int v64), (5, .int 6561), (6, .int 8)]) (lvS_cons (lvS_cons (lvS_cons (lvS_cons (lvS_cons (lvS_cons (lvS_nil (show ([6, 5, 4, 9, 8, 7, 0, 2, 3] : List Nat).Nodup by decide)) rfl) rfl) rfl) rfl) rfl) rfl) ?_
                  exact i18 x2 x3 v64 hh29 (by omega) (by omega) K31 (by omega)
        · refine xi_ift (pc' := 159) kc_58_77 rfl (xc_ne_t (X := v26.toInt) (Y := 0) rfl (by decide) (by omega)) ?_
          refine xi_iload (pc' := 161) (x := 2187) kc_58_159 rfl rfl ?_
          refine xi_iconst (pc' := 162) (v := 3) kc_58_161 rfl rfl ?_
          refine xi_imul (pc' := 163) (v := 6561) kc_58_162 rfl rfl ?_
          refine xi_istore (pc' := 165) (lv' := [(5, .int 6561), (0, .ref 115), (2, .int x2), (3, .int x3), (4, .int x4), (6, .int 7)]) kc_58_163 rfl rfl (xm_lt ml_58 rfl) ?_
          refine xi_iinc (pc' := 168) (x := 7) (v := 8) (lv' := [(6, .int 8), (5, .int 6561), (0, .ref 115), (2, .int x2), (3, .int x3), (4, .int x4)]) kc_58_165 rfl rfl rfl rfl (xm_lt ml_58 rfl) ?_
          refine xi_goto (pc' := 62) kc_58_168 rfl ?_
          have zc8 : (8 : Int32).toInt = 8 := by decide
          have zc6561 : (6561 : Int32).toInt = 6561 := by decide
          refine xw_lv (b := [(0, .ref 115), (2, .int x2), (3, .int x3), (4, .int x4), (5, .int 6561), (6, .int 8)]) (lvS_cons (lvS_cons (lvS_cons (lvS_cons (lvS_cons (lvS_cons (lvS_nil (show ([6, 5, 0, 2, 3, 4] : List Nat).Nodup by decide)) rfl) rfl) rfl) rfl) rfl) rfl) ?_
          exact i18 x2 x3 x4 h (by omega) (by omega) K (by omega)
    · intro x2 x3 x4 h b2 b3 K hm
      have rx4 := xc_rng x4
      refine xi_iload (pc' := 64) (x := 8) kc_58_62 rfl rfl ?_
      refine xi_aload_n (pc' := 65) (x := 115) kc_58_64 rfl rfl ?_
      obtain ⟨u1, u2, u3, u4, u5, u6, u7, u8, u9, u10, u11, u12, u13, bu1, bu2, bu3, bu4, bu5, bu6, bu7, bu8, bu9, bu10, bu11, bu12, bu13, A14⟩ := xq_115 K.1
      refine xi_getfield (pc' := 68) (v := .int u10) kc_58_65 rfl rfl rfl A14 rfl ?_
      refine xi_cmt (pc' := 171) kc_58_68 rfl (xc_ge_t (X := 8) (Y := u10.toInt) (by decide) rfl (by omega)) ?_
      refine xi_aload_n (pc' := 172) (x := 115) kc_58_171 rfl rfl ?_
      refine xi_getfield (pc' := 175) (v := .ref 155) kc_58_172 rfl rfl rfl A14 rfl ?_
      refine xi_iload_n (pc' := 176) (x := x3) kc_58_175 rfl rfl ?_
      refine xi_iload (pc' := 178) (x := x4) kc_58_176 rfl rfl ?_
      by_cases c15 : 0 ≤ x4.toInt
      · refine xi_ift (pc' := 185) kc_58_178 rfl (xc_ge_t (X := x4.toInt) (Y := 0) rfl (by decide) (by omega)) ?_
        refine xi_iload (pc' := 187) (x := x4) kc_58_185 rfl rfl ?_
        obtain ⟨y16, A16, hy16, ry16⟩ := xk_arr K.1 xD_155
        obtain ⟨y17, s17, hy17, ry17⟩ := xj_set (v := x4) hy16 ry16 x3 (by first | omega | decide) (by first | omega | decide)
        refine xi_iastore (pc' := 188) (x' := y17) kc_58_187 rfl A16 rfl (xi_in (by omega) (by rw [hy16]; omega)) s17 (fun hh17 eh17 => ?_)
        have K18 := xk_pa K (xk_wa (by decide +kernel)) xD_155 hy17 ry17 eh17
        obtain ⟨v19, ev19⟩ : ∃ q : Int32, x3 + (-1) = q := ⟨_, rfl⟩
        have zv19 : v19.toInt = (x3.toInt + (-1)) := by rw [← ev19]; exact (xz_add (X := x3.toInt) (Y := (-1)) rfl (by decide) (by omega) (by omega)).trans (by omega)
        refine xi_iinc (pc' := 191) (x := x3) (v := v19) (lv' := [(3, .int v19), (0, .ref 115), (2, .int x2), (4, .int x4), (5, .int 6561), (6, .int 8)]) kc_58_188 rfl rfl ev19 rfl (xm_lt ml_58 rfl) ?_
        refine xi_goto (pc' := 48) kc_58_191 rfl ?_
        refine xw_lv (b := [(0, .ref 115), (2, .int x2), (3, .int v19)]) (lvS_cons (lvS_cons (lvS_cons (lvS_nil (show ([3, 0, 2, 4, 5, 6] : List Nat).Nodup by decide)) rfl) rfl) rfl) ?_
        exact i9 x2 v19 hh17 (by omega) (by omega) K18 (by omega)
      · refine xi_iff (pc' := 181) kc_58_178 rfl (xc_ge_f (X := x4.toInt) (Y := 0) rfl (by decide) (by omega)) ?_
        refine xi_iconst (pc' := 182) (v := 0) kc_58_181 rfl rfl ?_
        refine xi_goto (pc' := 187) kc_58_182 rfl ?_
        obtain ⟨y20, A20, hy20, ry20⟩ := xk_arr K.1 xD_155
        obtain ⟨y21, s21, hy21, ry21⟩ := xj_set (v := 0) hy20 ry20 x3 (by first | omega | decide) (by first | omega | decide)
        refine xi_iastore (pc' := 188) (x' := y21) kc_58_187 rfl A20 rfl (xi_in (by omega) (by rw [hy20]; omega)) s21 (fun hh21 eh21 => ?_)
        have K22 := xk_pa K (xk_wa (by decide +kernel)) xD_155 hy21 ry21 eh21
        obtain ⟨v23, ev23⟩ : ∃ q : Int32, x3 + (-1) = q := ⟨_, rfl⟩
        have zv23 : v23.toInt = (x3.toInt + (-1)) := by rw [← ev23]; exact (xz_add (X := x3.toInt) (Y := (-1)) rfl (by decide) (by omega) (by omega)).trans (by omega)
        refine xi_iinc (pc' := 191) (x := x3) (v := v23) (lv' := [(3, .int v23), (0, .ref 115), (2, .int x2), (4, .int x4), (5, .int 6561), (6, .int 8)]) kc_58_188 rfl rfl ev23 rfl (xm_lt ml_58 rfl) ?_
        refine xi_goto (pc' := 48) kc_58_191 rfl ?_
        refine xw_lv (b := [(0, .ref 115), (2, .int x2), (3, .int v23)]) (lvS_cons (lvS_cons (lvS_cons (lvS_nil (show ([3, 0, 2, 4, 5, 6] : List Nat).Nodup by decide)) rfl) rfl) rfl) ?_
        exact i9 x2 v23 hh21 (by omega) (by omega) K22 (by omega)
set_option maxHeartbeats 4000000 in
theorem mt_58_0 {J : xe_J} {ov : List (List Int32)} (hJ : ∀ d mj as h, mj ≠ xe_loff → J d mj as h = none) (hov1 : ov[1]? = some [10, 0, 0, 0, 0, 0]) (hov2 : ov[2]? = some [99, 30, 50, 50, 1, 99999]) {d : Nat} {Q : Option Value → xe_H → Prop} {h : xe_H} (T : xt h) (kk : (∀ (r : Int32) (h' : xe_H), xk xP_17 h h' → Q (some (.int r)) h')) : xw J ov (d + 7) 58 (0, [(0, .ref 115)], [], h) Q := by
  have K : xk xP_17 h h := xk_re T
  refine xi_aload_n (pc' := 1) (x := 115) kc_58_0 rfl rfl ?_
  refine xi_iconst (pc' := 2) (v := 0) kc_58_1 rfl rfl ?_
  obtain ⟨u1, u2, u3, u4, u5, u6, u7, u8, u9, u10, u11, u12, u13, bu1, bu2, bu3, bu4, bu5, bu6, bu7, bu8, bu9, bu10, bu11, bu12, bu13, A14⟩ := xq_115 K.1
  refine xi_putfield (pc' := 5) (fs' := [.int 0, .int u2, .ref 116, .ref 117, .ref 118, .ref 119, .ref 120, .ref 121, .ref 122, .ref 123, .ref 124, .ref 125, .ref 126, .ref 127, .ref 128, .ref 129, .int u3, .ref 130, .int u4, .ref 131, .ref 132, .ref 133, .ref 134, .int u5, .ref 135, .ref 136, .ref 137, .ref 138, .ref 139, .ref 140, .ref 141, .ref 142, .int u6, .int u7, .int u8, .ref 143, .ref 144, .ref 145, .ref 146, .ref 147, .ref 148, .int u9, .ref 149, .ref 150, .ref 151, .int u10, .ref 152, .ref 153, .ref 154, .ref 155, .ref 156, .ref 157, .ref 158, .ref 159, .int u11, .ref 160, .int u12, .ref 161, .ref 162, .ref 163, .ref 164, .int u13, .ref 165, .ref 166]) kc_58_2 rfl rfl rfl A14 rfl rfl rfl (Nat.le_of_ble_eq_true rfl) rfl (fun hh16 eh15 => ?_)
  have K17 := xk_pf (k := 0) (v := 0) K (xk_wf (by decide +kernel)) xD_115 A14 rfl (by first | omega | decide) (by first | omega | decide) eh15 rfl
  refine xi_aload_n (pc' := 6) (x := 115) kc_58_5 rfl rfl ?_
  refine xi_virtual (mj := 43) (as := []) (st1 := []) (lv0 := [(0, .ref 115)]) kc_58_6 rfl rfl rfl rfl rfl eh15.1 (Nat.le_of_ble_eq_true rfl) (hJ _ _ _ _ (by decide)) (xm_le ml_43 rfl) rfl ?_
  refine mt_43_0 hJ hov1 hov2 (d := d)  K17.1 (fun hh19 K20 => ?_)
  have K21 := xk_tr K17 K20 (xsb_ok _ _ (by decide +kernel))
  obtain ⟨u22, u23, u24, u25, u26, u27, u28, u29, u30, u31, u32, u33, u34, bu22, bu23, bu24, bu25, bu26, bu27, bu28, bu29, bu30, bu31, bu32, bu33, bu34, A35⟩ := xq_115 K21.1
  have e36 : u2 = u23 := xk_eqi (q := 1) K20 (by decide +kernel) eh15.1 A35 rfl rfl
  subst e36
  have e37 : u5 = u26 := xk_eqi (q := 23) K20 (by decide +kernel) eh15.1 A35 rfl rfl
  subst e37
  have e38 : u8 = u29 := xk_eqi (q := 34) K20 (by decide +kernel) eh15.1 A35 rfl rfl
  subst e38
  show xw J ov (d + 7) 58 (9, [(0, .ref 115)], [], hh19) _
  refine xi_iconst (pc' := 10) (v := 1) kc_58_9 rfl rfl ?_
  refine xi_istore_n (pc' := 11) (lv' := [(1, .int 1), (0, .ref 115)]) kc_58_10 rfl rfl (xm_lt ml_58 rfl) ?_
  refine xi_iconst (pc' := 12) (v := 0) kc_58_11 rfl rfl ?_
  refine xi_istore_n (pc' := 13) (lv' := [(2, .int 0), (1, .int 1), (0, .ref 115)]) kc_58_12 rfl rfl (xm_lt ml_58 rfl) ?_
  refine xi_iconst (pc' := 14) (v := 0) kc_58_13 rfl rfl ?_
  refine xi_istore_n (pc' := 15) (lv' := [(3, .int 0), (2, .int 0), (1, .int 1), (0, .ref 115)]) kc_58_14 rfl rfl (xm_lt ml_58 rfl) ?_
  have zc0 : (0 : Int32).toInt = 0 := by decide
  have zc1 : (1 : Int32).toInt = 1 := by decide
  refine xw_lv (b := [(0, .ref 115), (1, .int 1), (2, .int 0), (3, .int 0)]) (lvS_cons (lvS_cons (lvS_cons (lvS_cons (lvS_nil (show ([3, 2, 1, 0] : List Nat).Nodup by decide)) rfl) rfl) rfl) rfl) ?_
  exact (lp_58_0 hJ hov1 hov2 (d := d) (hb := hh19) (fun r9 h9 K9 => kk r9 h9 (xk_tr K21 K9 (xsb_ok _ _ (by decide +kernel)))) 65629).1 0 hh19 (by omega) (xk_re K21.1) (by omega)
