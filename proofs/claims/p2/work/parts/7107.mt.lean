set_option maxHeartbeats 4000000 in
theorem lp_40_0 {J : xe_J} {ov : List (List Int32)} (hJ : ∀ d mj as h, mj ≠ xe_loff → J d mj as h = none) (hov1 : ov[1]? = some [10, 0, 0, 0, 0, 0]) (hov2 : ov[2]? = some [99, 30, 50, 50, 1, 99999]) {d : Nat} {Q : Option Value → xe_H → Prop} {hb : xe_H} (kk : (∀ h' : xe_H, xk xP_0 hb h' → Q none h')) : ∀ m : Nat, (∀ (x1 : Int32) (x2 : Int32) (x3 : Int32) (x4 : Int32) (x5 : Int32) (h : xe_H), (0 ≤ x1.toInt ∧ x1.toInt ≤ 5) → (1 ≤ x2.toInt ∧ x2.toInt ≤ 2147483647) → ((-1) ≤ x4.toInt ∧ x4.toInt ≤ 11) → ((-1) ≤ x5.toInt ∧ x5.toInt ≤ 11) → xk xP_0 hb h → (1) * x5.toInt + 14 < (m : Int) → xw J ov (d + 2) 40 (9, [(0, .ref 115), (1, .int x1), (2, .int x2), (3, .int x3), (4, .int x4), (5, .int x5)], [], h) Q) ∧ (∀ (x1 : Int32) (x2 : Int32) (x3 : Int32) (x4 : Int32) (x5 : Int32) (x6 : Int32) (h : xe_H), (0 ≤ x1.toInt ∧ x1.toInt ≤ 5) → (1 ≤ x2.toInt ∧ x2.toInt ≤ 2147483647) → ((-1) ≤ x4.toInt ∧ x4.toInt ≤ 11) → (0 ≤ x6.toInt ∧ x6.toInt ≤ 12) → xk xP_0 hb h → (-1) * x6.toInt + 12 < (m : Int) → xw J ov (d + 2) 40 (79, [(0, .ref 115), (1, .int x1), (2, .int x2), (3, .int x3), (4, .int x4), (5, .int x5), (6, .int x6)], [], h) Q) := by
  intro m
  induction m with
  | zero =>
    refine ⟨?_, ?_⟩
    · intro x1 x2 x3 x4 x5 h b1 b2 b4 b5 K hm; have rx3 := xc_rng x3; exfalso; omega
    · intro x1 x2 x3 x4 x5 x6 h b1 b2 b4 b6 K hm; have rx3 := xc_rng x3; have rx5 := xc_rng x5; exfalso; omega
  | succ m ih =>
    obtain ⟨i0, i1⟩ := ih
    refine ⟨?_, ?_⟩
    · intro x1 x2 x3 x4 x5 h b1 b2 b4 b5 K hm
      have rx3 := xc_rng x3
      refine xi_iload (pc' := 11) (x := x5) kc_40_9 rfl rfl ?_
      by_cases c1 : x5.toInt < 0
      · refine xi_ift (pc' := 73) kc_40_11 rfl (xc_lt_t (X := x5.toInt) (Y := 0) rfl (by decide) (by omega)) ?_
        refine xi_iload_n (pc' := 74) (x := x2) kc_40_73 rfl rfl ?_
        refine xi_istore (pc' := 76) (lv' := [(5, .int x2), (0, .ref 115), (1, .int x1), (2, .int x2), (3, .int x3), (4, .int x4)]) kc_40_74 rfl rfl (xm_lt ml_40 rfl) ?_
        refine xi_iconst (pc' := 77) (v := 0) kc_40_76 rfl rfl ?_
        refine xi_istore (pc' := 79) (lv' := [(6, .int 0), (5, .int x2), (0, .ref 115), (1, .int x1), (2, .int x2), (3, .int x3), (4, .int x4)]) kc_40_77 rfl rfl (xm_lt ml_40 rfl) ?_
        have zc0 : (0 : Int32).toInt = 0 := by decide
        refine xw_lv (b := [(0, .ref 115), (1, .int x1), (2, .int x2), (3, .int x3), (4, .int x4), (5, .int x2), (6, .int 0)]) (lvS_cons (lvS_cons (lvS_cons (lvS_cons (lvS_cons (lvS_cons (lvS_cons (lvS_nil (show ([6, 5, 0, 1, 2, 3, 4] : List Nat).Nodup by decide)) rfl) rfl) rfl) rfl) rfl) rfl) rfl) ?_
        exact i1 x1 x2 x3 x4 x2 0 h (by omega) (by omega) (by omega) (by omega) K (by omega)
      · refine xi_iff (pc' := 14) kc_40_11 rfl (xc_lt_f (X := x5.toInt) (Y := 0) rfl (by decide) (by omega)) ?_
        refine xi_aload_n (pc' := 15) (x := 115) kc_40_14 rfl rfl ?_
        obtain ⟨u2, u3, u4, u5, u6, u7, u8, u9, u10, u11, u12, u13, u14, bu2, bu3, bu4, bu5, bu6, bu7, bu8, bu9, bu10, bu11, bu12, bu13, bu14, A15⟩ := xq_115 K.1
        refine xi_getfield (pc' := 18) (v := .ref 125) kc_40_15 rfl rfl rfl A15 rfl ?_
        refine xi_iload (pc' := 20) (x := x5) kc_40_18 rfl rfl ?_
        obtain ⟨y16, A16, hy16, ry16⟩ := xk_arr K.1 xD_125
        obtain ⟨v17, ev17, bv17, dv17⟩ := xj_get hy16 ry16 (i := x5) (by omega) (by omega)
        refine xi_iaload (pc' := 21) (v := v17) kc_40_20 rfl A16 (by decide) rfl (xi_in (by omega) (by rw [hy16]; omega)) ev17 ?_
        refine xi_iload_n (pc' := 22) (x := x1) kc_40_21 rfl rfl ?_
        by_cases c18 : v17.toInt = x1.toInt
        · refine xi_cmf (pc' := 25) kc_40_22 rfl (xc_ne_f (X := v17.toInt) (Y := x1.toInt) rfl rfl (by omega)) ?_
          refine xi_aload_n (pc' := 26) (x := 115) kc_40_25 rfl rfl ?_
          refine xi_getfield (pc' := 29) (v := .ref 117) kc_40_26 rfl rfl rfl A15 rfl ?_
          refine xi_iload_n (pc' := 30) (x := x1) kc_40_29 rfl rfl ?_
          obtain ⟨y19, A19, hy19, ry19⟩ := xk_arr K.1 xD_117
          obtain ⟨v20, ev20, bv20, dv20⟩ := xj_get hy19 ry19 (i := x1) (by omega) (by omega)
          refine xi_iaload (pc' := 31) (v := v20) kc_40_30 rfl A19 (by decide) rfl (xi_in (by omega) (by rw [hy19]; omega)) ev20 ?_
          refine xi_aload_n (pc' := 32) (x := 115) kc_40_31 rfl rfl ?_
          refine xi_getfield (pc' := 35) (v := .int u7) kc_40_32 rfl rfl rfl A15 rfl ?_
          obtain ⟨v21, ev21⟩ : ∃ q : Int32, (v20 : Int32) - u7 = q := ⟨_, rfl⟩
          have rv21 := xc_rng v21
          refine xi_isub (pc' := 36) (v := v21) kc_40_35 rfl ev21 ?_
          refine xi_aload_n (pc' := 37) (x := 115) kc_40_36 rfl rfl ?_
          refine xi_getfield (pc' := 40) (v := .ref 126) kc_40_37 rfl rfl rfl A15 rfl ?_
          refine xi_iload (pc' := 42) (x := x5) kc_40_40 rfl rfl ?_
          obtain ⟨y22, A22, hy22, ry22⟩ := xk_arr K.1 xD_126
          obtain ⟨v23, ev23, bv23, dv23⟩ := xj_get hy22 ry22 (i := x5) (by omega) (by omega)
          refine xi_iaload (pc' := 43) (v := v23) kc_40_42 rfl A22 (by decide) rfl (xi_in (by omega) (by rw [hy22]; omega)) ev23 ?_
          obtain ⟨v24, ev24⟩ : ∃ q : Int32, (v21 : Int32) * v23 = q := ⟨_, rfl⟩
          have rv24 := xc_rng v24
          refine xi_imul (pc' := 44) (v := v24) kc_40_43 rfl ev24 ?_
          refine xi_bipush (pc' := 46) (v := 100) kc_40_44 rfl rfl ?_
          obtain ⟨v25, ev25⟩ : ∃ q : Int32, v24 / 100 = q := ⟨_, rfl⟩
          have dv25 : 100 * v25.toInt ≤ v24.toInt + 99 ∧ v24.toInt ≤ 100 * v25.toInt + 99 := by rw [← ev25]; exact xz_div (X := v24.toInt) (Y := 100) rfl (by decide) (by decide)
          have bv25 : -21474837 ≤ v25.toInt ∧ v25.toInt ≤ 21474837 := by omega
          refine xi_idiv (pc' := 47) (v := v25) kc_40_46 rfl ev25 (by decide) ?_
          refine xi_istore (pc' := 49) (lv' := [(6, .int v25), (0, .ref 115), (1, .int x1), (2, .int x2), (3, .int x3), (4, .int x4), (5, .int x5)]) kc_40_47 rfl rfl (xm_lt ml_40 rfl) ?_
          refine xi_iload_n (pc' := 50) (x := x3) kc_40_49 rfl rfl ?_
          refine xi_iload (pc' := 52) (x := v25) kc_40_50 rfl rfl ?_
          by_cases c26 : 0 ≤ v25.toInt
          · refine xi_ift (pc' := 59) kc_40_52 rfl (xc_ge_t (X := v25.toInt) (Y := 0) rfl (by decide) (by omega)) ?_
            refine xi_iload (pc' := 61) (x := v25) kc_40_59 rfl rfl ?_
            obtain ⟨v27, ev27⟩ : ∃ q : Int32, (x3 : Int32) + v25 = q := ⟨_, rfl⟩
            have rv27 := xc_rng v27
            refine xi_iadd (pc' := 62) (v := v27) kc_40_61 rfl ev27 ?_
            refine xi_istore_n (pc' := 63) (lv' := [(3, .int v27), (6, .int v25), (0, .ref 115), (1, .int x1), (2, .int x2), (4, .int x4), (5, .int x5)]) kc_40_62 rfl rfl (xm_lt ml_40 rfl) ?_
            refine xi_iload (pc' := 65) (x := x5) kc_40_63 rfl rfl ?_
            refine xi_istore (pc' := 67) (lv' := [(4, .int x5), (3, .int v27), (6, .int v25), (0, .ref 115), (1, .int x1), (2, .int x2), (5, .int x5)]) kc_40_65 rfl rfl (xm_lt ml_40 rfl) ?_
            obtain ⟨v28, ev28⟩ : ∃ q : Int32, x5 + (-1) = q := ⟨_, rfl⟩
            have zv28 : v28.toInt = (x5.toInt + (-1)) := by rw [← ev28]; exact (xz_add (X := x5.toInt) (Y := (-1)) rfl (by decide) (by omega) (by omega)).trans (by omega)
            refine xi_iinc (pc' := 70) (x := x5) (v := v28) (lv' := [(5, .int v28), (4, .int x5), (3, .int v27), (6, .int v25), (0, .ref 115), (1, .int x1), (2, .int x2)]) kc_40_67 rfl rfl ev28 rfl (xm_lt ml_40 rfl) ?_
            refine xi_goto (pc' := 9) kc_40_70 rfl ?_
            refine xw_lv (b := [(0, .ref 115), (1, .int x1), (2, .int x2), (3, .int v27), (4, .int x5), (5, .int v28)]) (lvS_cons (lvS_cons (lvS_cons (lvS_cons (lvS_cons (lvS_cons (lvS_nil (show ([5, 4, 3, 6, 0, 1, 2] : List Nat).Nodup by decide)) rfl) rfl) rfl) rfl) rfl) rfl) ?_
            exact i0 x1 x2 v27 x5 v28 h (by omega) (by omega) (by omega) (by omega) K (by omega)
          · refine xi_iff (pc' := 55) kc_40_52 rfl (xc_ge_f (X := v25.toInt) (Y := 0) rfl (by decide) (by omega)) ?_
            refine xi_iconst (pc' := 56) (v := 0) kc_40_55 rfl rfl ?_
            refine xi_goto (pc' := 61) kc_40_56 rfl ?_
            obtain ⟨v29, ev29⟩ : ∃ q : Int32, x3 + 0 = q := ⟨_, rfl⟩
            have zv29 : v29.toInt = x3.toInt := by rw [← ev29]; exact (xz_add (X := x3.toInt) (Y := 0) rfl (by decide) (by omega) (by omega)).trans (by omega)
            refine xi_iadd (pc' := 62) (v := v29) kc_40_61 rfl ev29 ?_
            refine xi_istore_n (pc' := 63) (lv' := [(3, .int v29), (6, .int v25), (0, .ref 115), (1, .int x1), (2, .int x2), (4, .int x4), (5, .int x5)]) kc_40_62 rfl rfl (xm_lt ml_40 rfl) ?_
            refine xi_iload (pc' := 65) (x := x5) kc_40_63 rfl rfl ?_
            refine xi_istore (pc' := 67) (lv' := [(4, .int x5), (3, .int v29), (6, .int v25), (0, .ref 115), (1, .int x1), (2, .int x2), (5, .int x5)]) kc_40_65 rfl rfl (xm_lt ml_40 rfl) ?_
            obtain ⟨v30, ev30⟩ : ∃ q : Int32, x5 + (-1) = q := ⟨_, rfl⟩
            have zv30 : v30.toInt = (x5.toInt + (-1)) := by rw [← ev30]; exact (xz_add (X := x5.toInt) (Y := (-1)) rfl (by decide) (by omega) (by omega)).trans (by omega)
            refine xi_iinc (pc' := 70) (x := x5) (v := v30) (lv' := [(5, .int v30), (4, .int x5), (3, .int v29), (6, .int v25), (0, .ref 115), (1, .int x1), (2, .int x2)]) kc_40_67 rfl rfl ev30 rfl (xm_lt ml_40 rfl) ?_
            refine xi_goto (pc' := 9) kc_40_70 rfl ?_
            refine xw_lv (b := [(0, .ref 115), (1, .int x1), (2, .int x2), (3, .int v29), (4, .int x5), (5, .int v30)]) (lvS_cons (lvS_cons (lvS_cons (lvS_cons (lvS_cons (lvS_cons (lvS_nil (show ([5, 4, 3, 6, 0, 1, 2] : List Nat).Nodup by decide)) rfl) rfl) rfl) rfl) rfl) rfl) ?_
            exact i0 x1 x2 v29 x5 v30 h (by omega) (by omega) (by omega) (by omega) K (by omega)
        · refine xi_cmt (pc' := 67) kc_40_22 rfl (xc_ne_t (X := v17.toInt) (Y := x1.toInt) rfl rfl (by omega)) ?_
          obtain ⟨v31, ev31⟩ : ∃ q : Int32, x5 + (-1) = q := ⟨_, rfl⟩
          have zv31 : v31.toInt = (x5.toInt + (-1)) := by rw [← ev31]; exact (xz_add (X := x5.toInt) (Y := (-1)) rfl (by decide) (by omega) (by omega)).trans (by omega)
          refine xi_iinc (pc' := 70) (x := x5) (v := v31) (lv' := [(5, .int v31), (0, .ref 115), (1, .int x1), (2, .int x2), (3, .int x3), (4, .int x4)]) kc_40_67 rfl rfl ev31 rfl (xm_lt ml_40 rfl) ?_
          refine xi_goto (pc' := 9) kc_40_70 rfl ?_
          refine xw_lv (b := [(0, .ref 115), (1, .int x1), (2, .int x2), (3, .int x3), (4, .int x4), (5, .int v31)]) (lvS_cons (lvS_cons (lvS_cons (lvS_cons (lvS_cons (lvS_cons (lvS_nil (show ([5, 0, 1, 2, 3, 4] : List Nat).Nodup by decide)) rfl) rfl) rfl) rfl) rfl) rfl) ?_
          exact i0 x1 x2 x3 x4 v31 h (by omega) (by omega) (by omega) (by omega) K (by omega)
    · intro x1 x2 x3 x4 x5 x6 h b1 b2 b4 b6 K hm
      have rx3 := xc_rng x3
      have rx5 := xc_rng x5
      refine xi_iload (pc' := 81) (x := x6) kc_40_79 rfl rfl ?_
      refine xi_bipush (pc' := 83) (v := 12) kc_40_81 rfl rfl ?_
      by_cases c1 : 12 ≤ x6.toInt
      · refine xi_cmt (pc' := 179) kc_40_83 rfl (xc_ge_t (X := x6.toInt) (Y := 12) rfl (by decide) (by omega)) ?_
        refine xi_iload (pc' := 181) (x := x4) kc_40_179 rfl rfl ?_
        by_cases c2 : x4.toInt < 0
        · refine xi_ift (pc' := 204) kc_40_181 rfl (xc_lt_t (X := x4.toInt) (Y := 0) rfl (by decide) (by omega)) ?_
          refine xi_return kc_40_204 mr_40 ?_
          exact kk h K
        · refine xi_iff (pc' := 184) kc_40_181 rfl (xc_lt_f (X := x4.toInt) (Y := 0) rfl (by decide) (by omega)) ?_
          refine xi_aload_n (pc' := 185) (x := 115) kc_40_184 rfl rfl ?_
          obtain ⟨u3, u4, u5, u6, u7, u8, u9, u10, u11, u12, u13, u14, u15, bu3, bu4, bu5, bu6, bu7, bu8, bu9, bu10, bu11, bu12, bu13, bu14, bu15, A16⟩ := xq_115 K.1
          refine xi_getfield (pc' := 188) (v := .ref 142) kc_40_185 rfl rfl rfl A16 rfl ?_
          refine xi_iload (pc' := 190) (x := x4) kc_40_188 rfl rfl ?_
          refine xi_aload_n (pc' := 191) (x := 115) kc_40_190 rfl rfl ?_
          refine xi_getfield (pc' := 194) (v := .ref 142) kc_40_191 rfl rfl rfl A16 rfl ?_
          refine xi_iload (pc' := 196) (x := x4) kc_40_194 rfl rfl ?_
          obtain ⟨y17, A17, hy17, ry17⟩ := xk_arr K.1 xD_142
          obtain ⟨v18, ev18, bv18, dv18⟩ := xj_get hy17 ry17 (i := x4) (by omega) (by omega)
          refine xi_iaload (pc' := 197) (v := v18) kc_40_196 rfl A17 (by decide) rfl (xi_in (by omega) (by rw [hy17]; omega)) ev18 ?_
          refine xi_iload (pc' := 199) (x := x5) kc_40_197 rfl rfl ?_
          obtain ⟨v19, ev19⟩ : ∃ q : Int32, (v18 : Int32) + x5 = q := ⟨_, rfl⟩
          have rv19 := xc_rng v19
          refine xi_iadd (pc' := 200) (v := v19) kc_40_199 rfl ev19 ?_
          refine xi_static (mj := 39) (as := [.int v19]) (st1 := [.int x4, .ref 142]) (lv0 := [(0, .int v19)]) kc_40_200 rfl rfl (Nat.le_of_ble_eq_true rfl) rfl rfl (Nat.le_of_ble_eq_true rfl) (hJ _ _ _ _ (by decide)) (xm_le ml_39 rfl) rfl ?_
          refine mt_39_0 hJ hov1 hov2 (d := d) (x0 := v19) K.1 (fun r20 hh21 br20 K22 => ?_)
          have K23 := xk_tr K K22 (xsb_ok _ _ (by decide +kernel))
          obtain ⟨u24, u25, u26, u27, u28, u29, u30, u31, u32, u33, u34, u35, u36, bu24, bu25, bu26, bu27, bu28, bu29, bu30, bu31, bu32, bu33, bu34, bu35, bu36, A37⟩ := xq_115 K23.1
          have e38 : u4 = u25 := xk_eqi (q := 1) K22 (by decide +kernel) A16 A37 rfl rfl
          subst e38
          have e39 : u7 = u28 := xk_eqi (q := 23) K22 (by decide +kernel) A16 A37 rfl rfl
          subst e39
          have e40 : u10 = u31 := xk_eqi (q := 34) K22 (by decide +kernel) A16 A37 rfl rfl
          subst e40
          have e41 : u8 = u29 := xk_eqi (q := 32) K22 (by decide +kernel) A16 A37 rfl rfl
          subst e41
          show xw J ov (d + 2) 40 (203, [(0, .ref 115), (1, .int x1), (2, .int x2), (3, .int x3), (4, .int x4), (5, .int x5), (6, .int x6)], [.int r20, .int x4, .ref 142], hh21) _
          obtain ⟨y42, A42, hy42, ry42⟩ := xk_arr K23.1 xD_142
          obtain ⟨y43, s43, hy43, ry43⟩ := xj_set (v := r20) hy42 ry42 x4 (by first | omega | decide) (by first | omega | decide)
          refine xi_iastore (pc' := 204) (x' := y43) kc_40_203 rfl A42 rfl (xi_in (by omega) (by rw [hy42]; omega)) s43 (fun hh43 eh43 => ?_)
          have K44 := xk_pa K23 (xk_wa (by decide +kernel)) xD_142 hy43 ry43 eh43
          refine xi_return kc_40_204 mr_40 ?_
          exact kk hh43 K44
      · refine xi_cmf (pc' := 86) kc_40_83 rfl (xc_ge_f (X := x6.toInt) (Y := 12) rfl (by decide) (by omega)) ?_
        refine xi_iload_n (pc' := 87) (x := x3) kc_40_86 rfl rfl ?_
        by_cases c45 : x3.toInt ≤ 0
        · refine xi_ift (pc' := 179) kc_40_87 rfl (xc_le_t (X := x3.toInt) (Y := 0) rfl (by decide) (by omega)) ?_
          refine xi_iload (pc' := 181) (x := x4) kc_40_179 rfl rfl ?_
          by_cases c46 : x4.toInt < 0
          · refine xi_ift (pc' := 204) kc_40_181 rfl (xc_lt_t (X := x4.toInt) (Y := 0) rfl (by decide) (by omega)) ?_
            refine xi_return kc_40_204 mr_40 ?_
            exact kk h K
          · refine xi_iff (pc' := 184) kc_40_181 rfl (xc_lt_f (X := x4.toInt) (Y := 0) rfl (by decide) (by omega)) ?_
            refine xi_aload_n (pc' := 185) (x := 115) kc_40_184 rfl rfl ?_
            obtain ⟨u47, u48, u49, u50, u51, u52, u53, u54, u55, u56, u57, u58, u59, bu47, bu48, bu49, bu50, bu51, bu52, bu53, bu54, bu55, bu56, bu57, bu58, bu59, A60⟩ := xq_115 K.1
            refine xi_getfield (pc' := 188) (v := .ref 142) kc_40_185 rfl rfl rfl A60 rfl ?_
            refine xi_iload (pc' := 190) (x := x4) kc_40_188 rfl rfl ?_
            refine xi_aload_n (pc' := 191) (x := 115) kc_40_190 rfl rfl ?_
            refine xi_getfield (pc' := 194) (v := .ref 142) kc_40_191 rfl rfl rfl A60 rfl ?_
            refine xi_iload (pc' := 196) (x := x4) kc_40_194 rfl rfl ?_
            obtain ⟨y61, A61, hy61, ry61⟩ := xk_arr K.1 xD_142
            obtain ⟨v62, ev62, bv62, dv62⟩ := xj_get hy61 ry61 (i := x4) (by omega) (by omega)
            refine xi_iaload (pc' := 197) (v := v62) kc_40_196 rfl A61 (by decide) rfl (xi_in (by omega) (by rw [hy61]; omega)) ev62 ?_
            refine xi_iload (pc' := 199) (x := x5) kc_40_197 rfl rfl ?_
            obtain ⟨v63, ev63⟩ : ∃ q : Int32, (v62 : Int32) + x5 = q := ⟨_, rfl⟩
            have rv63 := xc_rng v63
            refine xi_iadd (pc' := 200) (v := v63) kc_40_199 rfl ev63 ?_
            refine xi_static (mj := 39) (as := [.int v63]) (st1 := [.int x4, .ref 142]) (lv0 := [(0, .int v63)]) kc_40_200 rfl rfl (Nat.le_of_ble_eq_true rfl) rfl rfl (Nat.le_of_ble_eq_true rfl) (hJ _ _ _ _ (by decide)) (xm_le ml_39 rfl) rfl ?_
            refine mt_39_0 hJ hov1 hov2 (d := d) (x0 := v63) K.1 (fun r64 hh65 br64 K66 => ?_)
            have K67 := xk_tr K K66 (xsb_ok _ _ (by decide +kernel))
            obtain ⟨u68, u69, u70, u71, u72, u73, u74, u75, u76, u77, u78, u79, u80, bu68, bu69, bu70, bu71, bu72, bu73, bu74, bu75, bu76, bu77, bu78, bu79, bu80, A81⟩ := xq_115 K67.1
            have e82 : u48 = u69 := xk_eqi (q := 1) K66 (by decide +kernel) A60 A81 rfl rfl
            subst e82
            have e83 : u51 = u72 := xk_eqi (q := 23) K66 (by decide +kernel) A60 A81 rfl rfl
            subst e83
            have e84 : u54 = u75 := xk_eqi (q := 34) K66 (by decide +kernel) A60 A81 rfl rfl
            subst e84
            have e85 : u52 = u73 := xk_eqi (q := 32) K66 (by decide +kernel) A60 A81 rfl rfl
            subst e85
            show xw J ov (d + 2) 40 (203, [(0, .ref 115), (1, .int x1), (2, .int x2), (3, .int x3), (4, .int x4), (5, .int x5), (6, .int x6)], [.int r64, .int x4, .ref 142], hh65) _
            obtain ⟨y86, A86, hy86, ry86⟩ := xk_arr K67.1 xD_142
            obtain ⟨y87, s87, hy87, ry87⟩ := xj_set (v := r64) hy86 ry86 x4 (by first | omega | decide) (by first | omega | decide)
            refine xi_iastore (pc' := 204) (x' := y87) kc_40_203 rfl A86 rfl (xi_in (by omega) (by rw [hy86]; omega)) s87 (fun hh87 eh87 => ?_)
            have K88 := xk_pa K67 (xk_wa (by decide +kernel)) xD_142 hy87 ry87 eh87
            refine xi_return kc_40_204 mr_40 ?_
            exact kk hh87 K88
        · refine xi_iff (pc' := 90) kc_40_87 rfl (xc_le_f (X := x3.toInt) (Y := 0) rfl (by decide) (by omega)) ?_
          refine xi_aload_n (pc' := 91) (x := 115) kc_40_90 rfl rfl ?_
          obtain ⟨u89, u90, u91, u92, u93, u94, u95, u96, u97, u98, u99, u100, u101, bu89, bu90, bu91, bu92, bu93, bu94, bu95, bu96, bu97, bu98, bu99, bu100, bu101, A102⟩ := xq_115 K.1
          refine xi_getfield (pc' := 94) (v := .ref 125) kc_40_91 rfl rfl rfl A102 rfl ?_
          refine xi_iload (pc' := 96) (x := x6) kc_40_94 rfl rfl ?_
          obtain ⟨y103, A103, hy103, ry103⟩ := xk_arr K.1 xD_125
          obtain ⟨v104, ev104, bv104, dv104⟩ := xj_get hy103 ry103 (i := x6) (by omega) (by omega)
          refine xi_iaload (pc' := 97) (v := v104) kc_40_96 rfl A103 (by decide) rfl (xi_in (by omega) (by rw [hy103]; omega)) ev104 ?_
          refine xi_iload_n (pc' := 98) (x := x1) kc_40_97 rfl rfl ?_
          by_cases c105 : v104.toInt = x1.toInt
          · refine xi_cmf (pc' := 101) kc_40_98 rfl (xc_ne_f (X := v104.toInt) (Y := x1.toInt) rfl rfl (by omega)) ?_
            refine xi_aload_n (pc' := 102) (x := 115) kc_40_101 rfl rfl ?_
            refine xi_getfield (pc' := 105) (v := .ref 117) kc_40_102 rfl rfl rfl A102 rfl ?_
            refine xi_iload_n (pc' := 106) (x := x1) kc_40_105 rfl rfl ?_
            obtain ⟨y106, A106, hy106, ry106⟩ := xk_arr K.1 xD_117
            obtain ⟨v107, ev107, bv107, dv107⟩ := xj_get hy106 ry106 (i := x1) (by omega) (by omega)
            refine xi_iaload (pc' := 107) (v := v107) kc_40_106 rfl A106 (by decide) rfl (xi_in (by omega) (by rw [hy106]; omega)) ev107 ?_
            refine xi_aload_n (pc' := 108) (x := 115) kc_40_107 rfl rfl ?_
            refine xi_getfield (pc' := 111) (v := .int u94) kc_40_108 rfl rfl rfl A102 rfl ?_
            obtain ⟨v108, ev108⟩ : ∃ q : Int32, (v107 : Int32) - u94 = q := ⟨_, rfl⟩
            have rv108 := xc_rng v108
            refine xi_isub (pc' := 112) (v := v108) kc_40_111 rfl ev108 ?_
            refine xi_aload_n (pc' := 113) (x := 115) kc_40_112 rfl rfl ?_
            refine xi_getfield (pc' := 116) (v := .ref 126) kc_40_113 rfl rfl rfl A102 rfl ?_
            refine xi_iload (pc' := 118) (x := x6) kc_40_116 rfl rfl ?_
            obtain ⟨y109, A109, hy109, ry109⟩ := xk_arr K.1 xD_126
            obtain ⟨v110, ev110, bv110, dv110⟩ := xj_get hy109 ry109 (i := x6) (by omega) (by omega)
            refine xi_iaload (pc' := 119) (v := v110) kc_40_118 rfl A109 (by decide) rfl (xi_in (by omega) (by rw [hy109]; omega)) ev110 ?_
            obtain ⟨v111, ev111⟩ : ∃ q : Int32, (v108 : Int32) * v110 = q := ⟨_, rfl⟩
            have rv111 := xc_rng v111
            refine xi_imul (pc' := 120) (v := v111) kc_40_119 rfl ev111 ?_
            refine xi_bipush (pc' := 122) (v := 100) kc_40_120 rfl rfl ?_
            obtain ⟨v112, ev112⟩ : ∃ q : Int32, v111 / 100 = q := ⟨_, rfl⟩
            have dv112 : 100 * v112.toInt ≤ v111.toInt + 99 ∧ v111.toInt ≤ 100 * v112.toInt + 99 := by rw [← ev112]; exact xz_div (X := v111.toInt) (Y := 100) rfl (by decide) (by decide)
            have bv112 : -21474837 ≤ v112.toInt ∧ v112.toInt ≤ 21474837 := by omega
            refine xi_idiv (pc' := 123) (v := v112) kc_40_122 rfl ev112 (by decide) ?_
            refine xi_istore (pc' := 125) (lv' := [(7, .int v112), (0, .ref 115), (1, .int x1), (2, .int x2), (3, .int x3), (4, .int x4), (5, .int x5), (6, .int x6)]) kc_40_123 rfl rfl (xm_lt ml_40 rfl) ?_
            refine xi_iload (pc' := 127) (x := v112) kc_40_125 rfl rfl ?_
            by_cases c113 : 0 ≤ v112.toInt
            · refine xi_ift (pc' := 134) kc_40_127 rfl (xc_ge_t (X := v112.toInt) (Y := 0) rfl (by decide) (by omega)) ?_
              refine xi_iload_n (pc' := 135) (x := x2) kc_40_134 rfl rfl ?_
              obtain ⟨v114, ev114⟩ : ∃ q, (x2 : Int32).toInt64 = q := ⟨_, rfl⟩
              have zv114 : v114 ≠ 0 := xj_l0 ev114 (by omega)
              refine xi_i2l (pc' := 136) (v := v114) kc_40_135 rfl ev114 ?_
              refine xi_iload (pc' := 138) (x := v112) kc_40_136 rfl rfl ?_
              obtain ⟨v115, ev115⟩ : ∃ q, (v112 : Int32).toInt64 = q := ⟨_, rfl⟩
              refine xi_i2l (pc' := 139) (v := v115) kc_40_138 rfl ev115 ?_
              obtain ⟨v116, ev116⟩ : ∃ q : Int64, (v114 : Int64) * v115 = q := ⟨_, rfl⟩
              refine xi_lmul (pc' := 140) (v := v116) kc_40_139 rfl ev116 ?_
              refine xi_iload_n (pc' := 141) (x := x3) kc_40_140 rfl rfl ?_
              obtain ⟨v117, ev117⟩ : ∃ q, (x3 : Int32).toInt64 = q := ⟨_, rfl⟩
              have zv117 : v117 ≠ 0 := xj_l0 ev117 (by omega)
              refine xi_i2l (pc' := 142) (v := v117) kc_40_141 rfl ev117 ?_
              obtain ⟨v118, ev118⟩ : ∃ q : Int64, (v116 : Int64) / v117 = q := ⟨_, rfl⟩
              refine xi_ldiv (pc' := 143) (v := v118) kc_40_142 rfl ev118 zv117 ?_
              obtain ⟨v119, ev119⟩ : ∃ q, (v118 : Int64).toInt32 = q := ⟨_, rfl⟩
              have rv119 := xc_rng v119
              refine xi_l2i (pc' := 144) (v := v119) kc_40_143 rfl ev119 ?_
              refine xi_istore (pc' := 146) (lv' := [(8, .int v119), (7, .int v112), (0, .ref 115), (1, .int x1), (2, .int x2), (3, .int x3), (4, .int x4), (5, .int x5), (6, .int x6)]) kc_40_144 rfl rfl (xm_lt ml_40 rfl) ?_
              refine xi_aload_n (pc' := 147) (x := 115) kc_40_146 rfl rfl ?_
              refine xi_getfield (pc' := 150) (v := .ref 142) kc_40_147 rfl rfl rfl A102 rfl ?_
              refine xi_iload (pc' := 152) (x := x6) kc_40_150 rfl rfl ?_
              refine xi_aload_n (pc' := 153) (x := 115) kc_40_152 rfl rfl ?_
              refine xi_getfield (pc' := 156) (v := .ref 142) kc_40_153 rfl rfl rfl A102 rfl ?_
              refine xi_iload (pc' := 158) (x := x6) kc_40_156 rfl rfl ?_
              obtain ⟨y120, A120, hy120, ry120⟩ := xk_arr K.1 xD_142
              obtain ⟨v121, ev121, bv121, dv121⟩ := xj_get hy120 ry120 (i := x6) (by omega) (by omega)
              refine xi_iaload (pc' := 159) (v := v121) kc_40_158 rfl A120 (by decide) rfl (xi_in (by omega) (by rw [hy120]; omega)) ev121 ?_
              refine xi_iload (pc' := 161) (x := v119) kc_40_159 rfl rfl ?_
              obtain ⟨v122, ev122⟩ : ∃ q : Int32, (v121 : Int32) + v119 = q := ⟨_, rfl⟩
              have rv122 := xc_rng v122
              refine xi_iadd (pc' := 162) (v := v122) kc_40_161 rfl ev122 ?_
              refine xi_static (mj := 39) (as := [.int v122]) (st1 := [.int x6, .ref 142]) (lv0 := [(0, .int v122)]) kc_40_162 rfl rfl (Nat.le_of_ble_eq_true rfl) rfl rfl (Nat.le_of_ble_eq_true rfl) (hJ _ _ _ _ (by decide)) (xm_le ml_39 rfl) rfl ?_
              refine mt_39_0 hJ hov1 hov2 (d := d) (x0 := v122) K.1 (fun r123 hh124 br123 K125 => ?_)
              have K126 := xk_tr K K125 (xsb_ok _ _ (by decide +kernel))
              obtain ⟨u127, u128, u129, u130, u131, u132, u133, u134, u135, u136, u137, u138, u139, bu127, bu128, bu129, bu130, bu131, bu132, bu133, bu134, bu135, bu136, bu137, bu138, bu139, A140⟩ := xq_115 K126.1
              have e141 : u90 = u128 := xk_eqi (q := 1) K125 (by decide +kernel) A102 A140 rfl rfl
              subst e141
              have e142 : u93 = u131 := xk_eqi (q := 23) K125 (by decide +kernel) A102 A140 rfl rfl
              subst e142
              have e143 : u96 = u134 := xk_eqi (q := 34) K125 (by decide +kernel) A102 A140 rfl rfl
              subst e143
              have e144 : u94 = u132 := xk_eqi (q := 32) K125 (by decide +kernel) A102 A140 rfl rfl
              subst e144
              have A145 := xk_eqa (q := 0) K125 (by decide +kernel) A103
              have A146 := xk_eqa (q := 0) K125 (by decide +kernel) A106
              show xw J ov (d + 2) 40 (165, [(8, .int v119), (7, .int v112), (0, .ref 115), (1, .int x1), (2, .int x2), (3, .int x3), (4, .int x4), (5, .int x5), (6, .int x6)], [.int r123, .int x6, .ref 142], hh124) _
              obtain ⟨y147, A147, hy147, ry147⟩ := xk_arr K126.1 xD_142
              obtain ⟨y148, s148, hy148, ry148⟩ := xj_set (v := r123) hy147 ry147 x6 (by first | omega | decide) (by first | omega | decide)
              refine xi_iastore (pc' := 166) (x' := y148) kc_40_165 rfl A147 rfl (xi_in (by omega) (by rw [hy147]; omega)) s148 (fun hh148 eh148 => ?_)
              have K149 := xk_pa K126 (xk_wa (by decide +kernel)) xD_142 hy148 ry148 eh148
              refine xi_iload (pc' := 168) (x := x5) kc_40_166 rfl rfl ?_
              refine xi_iload (pc' := 170) (x := v119) kc_40_168 rfl rfl ?_
              obtain ⟨v150, ev150⟩ : ∃ q : Int32, (x5 : Int32) - v119 = q := ⟨_, rfl⟩
              have rv150 := xc_rng v150
              refine xi_isub (pc' := 171) (v := v150) kc_40_170 rfl ev150 ?_
              refine xi_istore (pc' := 173) (lv' := [(5, .int v150), (8, .int v119), (7, .int v112), (0, .ref 115), (1, .int x1), (2, .int x2), (3, .int x3), (4, .int x4), (6, .int x6)]) kc_40_171 rfl rfl (xm_lt ml_40 rfl) ?_
              obtain ⟨v151, ev151⟩ : ∃ q : Int32, x6 + 1 = q := ⟨_, rfl⟩
              have zv151 : v151.toInt = (x6.toInt + 1) := by rw [← ev151]; exact (xz_add (X := x6.toInt) (Y := 1) rfl (by decide) (by omega) (by omega)).trans (by omega)
              refine xi_iinc (pc' := 176) (x := x6) (v := v151) (lv' := [(6, .int v151), (5, .int v150), (8, .int v119), (7, .int v112), (0, .ref 115), (1, .int x1), (2, .int x2), (3, .int x3), (4, .int x4)]) kc_40_173 rfl rfl ev151 rfl (xm_lt ml_40 rfl) ?_
              refine xi_goto (pc' := 79) kc_40_176 rfl ?_
              refine xw_lv (b := [(0, .ref 115), (1, .int x1), (2, .int x2), (3, .int x3), (4, .int x4), (5, .int v150), (6, .int v151)]) (lvS_cons (lvS_cons (lvS_cons (lvS_cons (lvS_cons (lvS_cons (lvS_cons (lvS_nil (show ([6, 5, 8, 7, 0, 1, 2, 3, 4] : List Nat).Nodup by decide)) rfl) rfl) rfl) rfl) rfl) rfl) rfl) ?_
              exact i1 x1 x2 x3 x4 v150 v151 hh148 (by omega) (by omega) (by omega) (by omega) K149 (by omega)
            · refine xi_iff (pc' := 130) kc_40_127 rfl (xc_ge_f (X := v112.toInt) (Y := 0) rfl (by decide) (by omega)) ?_
              refine xi_iconst (pc' := 131) (v := 0) kc_40_130 rfl rfl ?_
              refine xi_goto (pc' := 144) kc_40_131 rfl ?_
              refine xi_istore (pc' := 146) (lv' := [(8, .int 0), (7, .int v112), (0, .ref 115), (1, .int x1), (2, .int x2), (3, .int x3), (4, .int x4), (5, .int x5), (6, .int x6)]) kc_40_144 rfl rfl (xm_lt ml_40 rfl) ?_
              refine xi_aload_n (pc' := 147) (x := 115) kc_40_146 rfl rfl ?_
              refine xi_getfield (pc' := 150) (v := .ref 142) kc_40_147 rfl rfl rfl A102 rfl ?_
              refine xi_iload (pc' := 152) (x := x6) kc_40_150 rfl rfl ?_
              refine xi_aload_n (pc' := 153) (x := 115) kc_40_152 rfl rfl ?_
              refine xi_getfield (pc' := 156) (v := .ref 142) kc_40_153 rfl rfl rfl A102 rfl ?_
              refine xi_iload (pc' := 158) (x := x6) kc_40_156 rfl rfl ?_
              obtain ⟨y152, A152, hy152, ry152⟩ := xk_arr K.1 xD_142
              obtain ⟨v153, ev153, bv153, dv153⟩ := xj_get hy152 ry152 (i := x6) (by omega) (by omega)
              refine xi_iaload (pc' := 159) (v := v153) kc_40_158 rfl A152 (by decide) rfl (xi_in (by omega) (by rw [hy152]; omega)) ev153 ?_
              refine xi_iload (pc' := 161) (x := 0) kc_40_159 rfl rfl ?_
              obtain ⟨v154, ev154⟩ : ∃ q : Int32, v153 + 0 = q := ⟨_, rfl⟩
              have zv154 : v154.toInt = v153.toInt := by rw [← ev154]; exact (xz_add (X := v153.toInt) (Y := 0) rfl (by decide) (by omega) (by omega)).trans (by omega)
              refine xi_iadd (pc' := 162) (v := v154) kc_40_161 rfl ev154 ?_
              refine xi_static (mj := 39) (as := [.int v154]) (st1 := [.int x6, .ref 142]) (lv0 := [(0, .int v154)]) kc_40_162 rfl rfl (Nat.le_of_ble_eq_true rfl) rfl rfl (Nat.le_of_ble_eq_true rfl) (hJ _ _ _ _ (by decide)) (xm_le ml_39 rfl) rfl ?_
              refine mt_39_0 hJ hov1 hov2 (d := d) (x0 := v154) K.1 (fun r155 hh156 br155 K157 => ?_)
              have K158 := xk_tr K K157 (xsb_ok _ _ (by decide +kernel))
              obtain ⟨u159, u160, u161, u162, u163, u164, u165, u166, u167, u168, u169, u170, u171, bu159, bu160, bu161, bu162, bu163, bu164, bu165, bu166, bu167, bu168, bu169, bu170, bu171, A172⟩ := xq_115 K158.1
              have e173 : u90 = u160 := xk_eqi (q := 1) K157 (by decide +kernel) A102 A172 rfl rfl
              subst e173
              have e174 : u93 = u163 := xk_eqi (q := 23) K157 (by decide +kernel) A102 A172 rfl rfl
              subst e174
              have e175 : u96 = u166 := xk_eqi (q := 34) K157 (by decide +kernel) A102 A172 rfl rfl
              subst e175
              have e176 : u94 = u164 := xk_eqi (q := 32) K157 (by decide +kernel) A102 A172 rfl rfl
              subst e176
              have A177 := xk_eqa (q := 0) K157 (by decide +kernel) A103
              have A178 := xk_eqa (q := 0) K157 (by decide +kernel) A106
              show xw J ov (d + 2) 40 (165, [(8, .int 0), (7, .int v112), (0, .ref 115), (1, .int x1), (2, .int x2), (3, .int x3), (4, .int x4), (5, .int x5), (6, .int x6)], [.int r155, .int x6, .ref 142], hh156) _
              obtain ⟨y179, A179, hy179, ry179⟩ := xk_arr K158.1 xD_142
              obtain ⟨y180, s180, hy180, ry180⟩ := xj_set (v := r155) hy179 ry179 x6 (by first | omega | decide) (by first | omega | decide)
              refine xi_iastore (pc' := 166) (x' := y180) kc_40_165 rfl A179 rfl (xi_in (by omega) (by rw [hy179]; omega)) s180 (fun hh180 eh180 => ?_)
              have K181 := xk_pa K158 (xk_wa (by decide +kernel)) xD_142 hy180 ry180 eh180
              refine xi_iload (pc' := 168) (x := x5) kc_40_166 rfl rfl ?_
              refine xi_iload (pc' := 170) (x := 0) kc_40_168 rfl rfl ?_
              obtain ⟨v182, ev182⟩ : ∃ q : Int32, x5 - 0 = q := ⟨_, rfl⟩
              have zv182 : v182.toInt = x5.toInt := by rw [← ev182]; exact (xz_sub (X := x5.toInt) (Y := 0) rfl (by decide) (by omega) (by omega)).trans (by omega)
              refine xi_isub (pc' := 171) (v := v182) kc_40_170 rfl ev182 ?_
              refine xi_istore (pc' := 173) (lv' := [(5, .int v182), (8, .int 0), (7, .int v112), (0, .ref 115), (1, .int x1), (2, .int x2), (3, .int x3), (4, .int x4), (6, .int x6)]) kc_40_171 rfl rfl (xm_lt ml_40 rfl) ?_
              obtain ⟨v183, ev183⟩ : ∃ q : Int32, x6 + 1 = q := ⟨_, rfl⟩
              have zv183 : v183.toInt = (x6.toInt + 1) := by rw [← ev183]; exact (xz_add (X := x6.toInt) (Y := 1) rfl (by decide) (by omega) (by omega)).trans (by omega)
              refine xi_iinc (pc' := 176) (x := x6) (v := v183) (lv' := [(6, .int v183), (5, .int v182), (8, .int 0), (7, .int v112), (0, .ref 115), (1, .int x1), (2, .int x2), (3, .int x3), (4, .int x4)]) kc_40_173 rfl rfl ev183 rfl (xm_lt ml_40 rfl) ?_
              refine xi_goto (pc' := 79) kc_40_176 rfl ?_
              refine xw_lv (b := [(0, .ref 115), (1, .int x1), (2, .int x2), (3, .int x3), (4, .int x4), (5, .int v182), (6, .int v183)]) (lvS_cons (lvS_cons (lvS_cons (lvS_cons (lvS_cons (lvS_cons (lvS_cons (lvS_nil (show ([6, 5, 8, 7, 0, 1, 2, 3, 4] : List Nat).Nodup by decide)) rfl) rfl) rfl) rfl) rfl) rfl) rfl) ?_
              exact i1 x1 x2 x3 x4 v182 v183 hh180 (by omega) (by omega) (by omega) (by omega) K181 (by omega)
          · refine xi_cmt (pc' := 173) kc_40_98 rfl (xc_ne_t (X := v104.toInt) (Y := x1.toInt) rfl rfl (by omega)) ?_
            obtain ⟨v184, ev184⟩ : ∃ q : Int32, x6 + 1 = q := ⟨_, rfl⟩
            have zv184 : v184.toInt = (x6.toInt + 1) := by rw [← ev184]; exact (xz_add (X := x6.toInt) (Y := 1) rfl (by decide) (by omega) (by omega)).trans (by omega)
            refine xi_iinc (pc' := 176) (x := x6) (v := v184) (lv' := [(6, .int v184), (0, .ref 115), (1, .int x1), (2, .int x2), (3, .int x3), (4, .int x4), (5, .int x5)]) kc_40_173 rfl rfl ev184 rfl (xm_lt ml_40 rfl) ?_
            refine xi_goto (pc' := 79) kc_40_176 rfl ?_
            refine xw_lv (b := [(0, .ref 115), (1, .int x1), (2, .int x2), (3, .int x3), (4, .int x4), (5, .int x5), (6, .int v184)]) (lvS_cons (lvS_cons (lvS_cons (lvS_cons (lvS_cons (lvS_cons (lvS_cons (lvS_nil (show ([6, 0, 1, 2, 3, 4, 5] : List Nat).Nodup by decide)) rfl) rfl) rfl) rfl) rfl) rfl) rfl) ?_
            exact i1 x1 x2 x3 x4 x5 v184 h (by omega) (by omega) (by omega) (by omega) K (by omega)
set_option maxHeartbeats 4000000 in
theorem mt_40_0 {J : xe_J} {ov : List (List Int32)} (hJ : ∀ d mj as h, mj ≠ xe_loff → J d mj as h = none) (hov1 : ov[1]? = some [10, 0, 0, 0, 0, 0]) (hov2 : ov[2]? = some [99, 30, 50, 50, 1, 99999]) {d : Nat} {Q : Option Value → xe_H → Prop} {h : xe_H} {x1 : Int32} {x2 : Int32} (T : xt h) (b1 : (0 ≤ x1.toInt ∧ x1.toInt ≤ 5)) (b2 : (1 ≤ x2.toInt ∧ x2.toInt ≤ 2147483647)) (kk : (∀ h' : xe_H, xk xP_0 h h' → Q none h')) : xw J ov (d + 2) 40 (0, [(0, .ref 115), (1, .int x1), (2, .int x2)], [], h) Q := by
  have K : xk xP_0 h h := xk_re T
  refine xi_iconst (pc' := 1) (v := 0) kc_40_0 rfl rfl ?_
  refine xi_istore_n (pc' := 2) (lv' := [(3, .int 0), (0, .ref 115), (1, .int x1), (2, .int x2)]) kc_40_1 rfl rfl (xm_lt ml_40 rfl) ?_
  refine xi_iconst (pc' := 3) (v := (-1)) kc_40_2 rfl rfl ?_
  refine xi_istore (pc' := 5) (lv' := [(4, .int (-1)), (3, .int 0), (0, .ref 115), (1, .int x1), (2, .int x2)]) kc_40_3 rfl rfl (xm_lt ml_40 rfl) ?_
  refine xi_bipush (pc' := 7) (v := 11) kc_40_5 rfl rfl ?_
  refine xi_istore (pc' := 9) (lv' := [(5, .int 11), (4, .int (-1)), (3, .int 0), (0, .ref 115), (1, .int x1), (2, .int x2)]) kc_40_7 rfl rfl (xm_lt ml_40 rfl) ?_
  have zcm1 : ((-1) : Int32).toInt = (-1) := by decide
  have zc0 : (0 : Int32).toInt = 0 := by decide
  have zc11 : (11 : Int32).toInt = 11 := by decide
  refine xw_lv (b := [(0, .ref 115), (1, .int x1), (2, .int x2), (3, .int 0), (4, .int (-1)), (5, .int 11)]) (lvS_cons (lvS_cons (lvS_cons (lvS_cons (lvS_cons (lvS_cons (lvS_nil (show ([5, 4, 3, 0, 1, 2] : List Nat).Nodup by decide)) rfl) rfl) rfl) rfl) rfl) rfl) ?_
  exact (lp_40_0 hJ hov1 hov2 (d := d) (hb := h) (fun h9 K9 => kk h9 (xk_tr K K9 (xsb_ok _ _ (by decide +kernel)))) 26).1 x1 x2 0 (-1) 11 h (by omega) (by omega) (by omega) (by omega) (xk_re K.1) (by omega)
set_option maxHeartbeats 4000000 in
theorem lp_37_0 {J : xe_J} {ov : List (List Int32)} (hJ : ∀ d mj as h, mj ≠ xe_loff → J d mj as h = none) (hov1 : ov[1]? = some [10, 0, 0, 0, 0, 0]) (hov2 : ov[2]? = some [99, 30, 50, 50, 1, 99999]) {d : Nat} {Q : Option Value → xe_H → Prop} {hb : xe_H} (kk : (∀ h' : xe_H, xk xP_15 hb h' → Q none h')) : ∀ m : Nat, (∀ (x1 : Int32) (x2 : Int32) (x3 : Int32) (x4 : Int32) (x5 : Int32) (x6 : Int32) (h : xe_H), (0 ≤ x1.toInt ∧ x1.toInt ≤ 5) → (0 ≤ x2.toInt ∧ x2.toInt ≤ 63) → (0 ≤ x3.toInt ∧ x3.toInt ≤ 1) → (0 ≤ x4.toInt ∧ x4.toInt ≤ 599) → (0 ≤ x6.toInt ∧ x6.toInt ≤ 10) → xk xP_15 hb h → (-1) * x6.toInt + 10 < (m : Int) → xw J ov (d + 3) 37 (27, [(0, .ref 115), (1, .int x1), (2, .int x2), (3, .int x3), (4, .int x4), (5, .int x5), (6, .int x6)], [], h) Q) := by
  intro m
  induction m with
  | zero =>
    intro x1 x2 x3 x4 x5 x6 h b1 b2 b3 b4 b6 K hm; have rx5 := xc_rng x5; exfalso; omega
  | succ m ih =>
    have i0 := ih
    intro x1 x2 x3 x4 x5 x6 h b1 b2 b3 b4 b6 K hm
    have rx5 := xc_rng x5
    refine xi_iload (pc' := 29) (x := x6) kc_37_27 rfl rfl ?_
    refine xi_aload_n (pc' := 30) (x := 115) kc_37_29 rfl rfl ?_
    obtain ⟨u1, u2, u3, u4, u5, u6, u7, u8, u9, u10, u11, u12, u13, bu1, bu2, bu3, bu4, bu5, bu6, bu7, bu8, bu9, bu10, bu11, bu12, bu13, A14⟩ := xq_115 K.1
    refine xi_getfield (pc' := 33) (v := .int u5) kc_37_30 rfl rfl rfl A14 rfl ?_
    by_cases c15 : u5.toInt ≤ x6.toInt
    · refine xi_cmt (pc' := 93) kc_37_33 rfl (xc_ge_t (X := x6.toInt) (Y := u5.toInt) rfl rfl (by omega)) ?_
      refine xi_iload (pc' := 95) (x := x5) kc_37_93 rfl rfl ?_
      refine xi_static (mj := 39) (as := [.int x5]) (st1 := []) (lv0 := [(0, .int x5)]) kc_37_95 rfl rfl (Nat.le_of_ble_eq_true rfl) rfl rfl (Nat.le_of_ble_eq_true rfl) (hJ _ _ _ _ (by decide)) (xm_le ml_39 rfl) rfl ?_
      refine mt_39_0 hJ hov1 hov2 (d := d + 1) (x0 := x5) K.1 (fun r16 hh17 br16 K18 => ?_)
      have K19 := xk_tr K K18 (xsb_ok _ _ (by decide +kernel))
      obtain ⟨u20, u21, u22, u23, u24, u25, u26, u27, u28, u29, u30, u31, u32, bu20, bu21, bu22, bu23, bu24, bu25, bu26, bu27, bu28, bu29, bu30, bu31, bu32, A33⟩ := xq_115 K19.1
      have e34 : u2 = u21 := xk_eqi (q := 1) K18 (by decide +kernel) A14 A33 rfl rfl
      subst e34
      have e35 : u5 = u24 := xk_eqi (q := 23) K18 (by decide +kernel) A14 A33 rfl rfl
      subst e35
      have e36 : u8 = u27 := xk_eqi (q := 34) K18 (by decide +kernel) A14 A33 rfl rfl
      subst e36
      have e37 : u6 = u25 := xk_eqi (q := 32) K18 (by decide +kernel) A14 A33 rfl rfl
      subst e37
      show xw J ov (d + 3) 37 (98, [(0, .ref 115), (1, .int x1), (2, .int x2), (3, .int x3), (4, .int x4), (5, .int x5), (6, .int x6)], [.int r16], hh17) _
      refine xi_istore (pc' := 100) (lv' := [(5, .int r16), (0, .ref 115), (1, .int x1), (2, .int x2), (3, .int x3), (4, .int x4), (6, .int x6)]) kc_37_98 rfl rfl (xm_lt ml_37 rfl) ?_
      refine xi_aload_n (pc' := 101) (x := 115) kc_37_100 rfl rfl ?_
      refine xi_getfield (pc' := 104) (v := .ref 116) kc_37_101 rfl rfl rfl A33 rfl ?_
      refine xi_iload_n (pc' := 105) (x := x1) kc_37_104 rfl rfl ?_
      obtain ⟨y38, A38, hy38, ry38⟩ := xk_arr K19.1 xD_116
      obtain ⟨v39, ev39, bv39, dv39⟩ := xj_get hy38 ry38 (i := x1) (by omega) (by omega)
      refine xi_iaload (pc' := 106) (v := v39) kc_37_105 rfl A38 (by decide) rfl (xi_in (by omega) (by rw [hy38]; omega)) ev39 ?_
      refine xi_aload_n (pc' := 107) (x := 115) kc_37_106 rfl rfl ?_
      refine xi_getfield (pc' := 110) (v := .int u6) kc_37_107 rfl rfl rfl A33 rfl ?_
      refine xi_static (mj := 22) (as := [.int u6]) (st1 := [.int v39]) (lv0 := [(0, .int u6)]) kc_37_110 rfl rfl (Nat.le_of_ble_eq_true rfl) rfl rfl (Nat.le_of_ble_eq_true rfl) (hJ _ _ _ _ (by decide)) (xm_le ml_22 rfl) rfl ?_
      refine mt_22_0 hJ hov1 hov2 (d := d + 1) (x0 := u6) K19.1 (fun r40 hh41 br40 K42 => ?_)
      have K43 := xk_tr K19 K42 (xsb_ok _ _ (by decide +kernel))
      obtain ⟨u44, u45, u46, u47, u48, u49, u50, u51, u52, u53, u54, u55, u56, bu44, bu45, bu46, bu47, bu48, bu49, bu50, bu51, bu52, bu53, bu54, bu55, bu56, A57⟩ := xq_115 K43.1
      have e58 : u2 = u45 := xk_eqi (q := 1) K42 (by decide +kernel) A33 A57 rfl rfl
      subst e58
      have e59 : u5 = u48 := xk_eqi (q := 23) K42 (by decide +kernel) A33 A57 rfl rfl
      subst e59
      have e60 : u8 = u51 := xk_eqi (q := 34) K42 (by decide +kernel) A33 A57 rfl rfl
      subst e60
      have e61 : u6 = u49 := xk_eqi (q := 32) K42 (by decide +kernel) A33 A57 rfl rfl
      subst e61
      have A62 := xk_eqa (q := 0) K42 (by decide +kernel) A38
      show xw J ov (d + 3) 37 (113, [(5, .int r16), (0, .ref 115), (1, .int x1), (2, .int x2), (3, .int x3), (4, .int x4), (6, .int x6)], [.int r40, .int v39], hh41) _
      obtain ⟨v63, ev63⟩ : ∃ q : Int32, (v39 : Int32) * r40 = q := ⟨_, rfl⟩
      have rv63 := xc_rng v63
      refine xi_imul (pc' := 114) (v := v63) kc_37_113 rfl ev63 ?_
      refine xi_iconst (pc' := 115) (v := 2) kc_37_114 rfl rfl ?_
      obtain ⟨v64, ev64⟩ : ∃ q : Int32, v63 / 2 = q := ⟨_, rfl⟩
      have dv64 : 2 * v64.toInt ≤ v63.toInt + 1 ∧ v63.toInt ≤ 2 * v64.toInt + 1 := by rw [← ev64]; exact xz_div (X := v63.toInt) (Y := 2) rfl (by decide) (by decide)
      have bv64 : -1073741825 ≤ v64.toInt ∧ v64.toInt ≤ 1073741824 := by omega
      refine xi_idiv (pc' := 116) (v := v64) kc_37_115 rfl ev64 (by decide) ?_
      refine xi_istore (pc' := 118) (lv' := [(6, .int v64), (5, .int r16), (0, .ref 115), (1, .int x1), (2, .int x2), (3, .int x3), (4, .int x4)]) kc_37_116 rfl rfl (xm_lt ml_37 rfl) ?_
      refine xi_iload (pc' := 120) (x := r16) kc_37_118 rfl rfl ?_
      refine xi_iload (pc' := 122) (x := r16) kc_37_120 rfl rfl ?_
      refine xi_iload (pc' := 124) (x := v64) kc_37_122 rfl rfl ?_
      obtain ⟨v65, ev65⟩ : ∃ q : Int32, r16 - v64 = q := ⟨_, rfl⟩
      have zv65 : v65.toInt = (r16.toInt + (-1) * v64.toInt) := by rw [← ev65]; exact (xz_sub (X := r16.toInt) (Y := v64.toInt) rfl rfl (by omega) (by omega)).trans (by omega)
      refine xi_isub (pc' := 125) (v := v65) kc_37_124 rfl ev65 ?_
      refine xi_aload_n (pc' := 126) (x := 115) kc_37_125 rfl rfl ?_
      refine xi_getfield (pc' := 129) (v := .ref 118) kc_37_126 rfl rfl rfl A57 rfl ?_
      refine xi_iload_n (pc' := 130) (x := x1) kc_37_129 rfl rfl ?_
      obtain ⟨y66, A66, hy66, ry66⟩ := xk_arr K43.1 xD_118
      obtain ⟨v67, ev67, bv67, dv67⟩ := xj_get hy66 ry66 (i := x1) (by omega) (by omega)
      refine xi_iaload (pc' := 131) (v := v67) kc_37_130 rfl A66 (by decide) rfl (xi_in (by omega) (by rw [hy66]; omega)) ev67 ?_
      refine xi_aload_n (pc' := 132) (x := 115) kc_37_131 rfl rfl ?_
      refine xi_getfield (pc' := 135) (v := .ref 120) kc_37_132 rfl rfl rfl A57 rfl ?_
      refine xi_iload_n (pc' := 136) (x := x1) kc_37_135 rfl rfl ?_
      obtain ⟨y68, A68, hy68, ry68⟩ := xk_arr K43.1 xD_120
      obtain ⟨v69, ev69, bv69, dv69⟩ := xj_get hy68 ry68 (i := x1) (by omega) (by omega)
      refine xi_iaload (pc' := 137) (v := v69) kc_37_136 rfl A68 (by decide) rfl (xi_in (by omega) (by rw [hy68]; omega)) ev69 ?_
      refine xi_iconst (pc' := 138) (v := 1) kc_37_137 rfl rfl ?_
      by_cases c70 : v69.toInt = 1
      · refine xi_cmf (pc' := 141) kc_37_138 rfl (xc_ne_f (X := v69.toInt) (Y := 1) rfl (by decide) (by omega)) ?_
        refine xi_aload_n (pc' := 142) (x := 115) kc_37_141 rfl rfl ?_
        refine xi_getfield (pc' := 145) (v := .ref 119) kc_37_142 rfl rfl rfl A57 rfl ?_
        refine xi_iload_n (pc' := 146) (x := x1) kc_37_145 rfl rfl ?_
        obtain ⟨y71, A71, hy71, ry71⟩ := xk_arr K43.1 xD_119
        obtain ⟨v72, ev72, bv72, dv72⟩ := xj_get hy71 ry71 (i := x1) (by omega) (by omega)
        refine xi_iaload (pc' := 147) (v := v72) kc_37_146 rfl A71 (by decide) rfl (xi_in (by omega) (by rw [hy71]; omega)) ev72 ?_
        refine xi_goto (pc' := 151) kc_37_147 rfl ?_
        obtain ⟨v73, ev73⟩ : ∃ q : Int32, v67 + v72 = q := ⟨_, rfl⟩
        have zv73 : v73.toInt = (v67.toInt + v72.toInt) := by rw [← ev73]; exact (xz_add (X := v67.toInt) (Y := v72.toInt) rfl rfl (by omega) (by omega)).trans (by omega)
        refine xi_iadd (pc' := 152) (v := v73) kc_37_151 rfl ev73 ?_
        obtain ⟨v74, ev74⟩ : ∃ q : Int32, (v65 : Int32) * v73 = q := ⟨_, rfl⟩
        have rv74 := xc_rng v74
        refine xi_imul (pc' := 153) (v := v74) kc_37_152 rfl ev74 ?_
        refine xi_bipush (pc' := 155) (v := 100) kc_37_153 rfl rfl ?_
        obtain ⟨v75, ev75⟩ : ∃ q : Int32, v74 / 100 = q := ⟨_, rfl⟩
        have dv75 : 100 * v75.toInt ≤ v74.toInt + 99 ∧ v74.toInt ≤ 100 * v75.toInt + 99 := by rw [← ev75]; exact xz_div (X := v74.toInt) (Y := 100) rfl (by decide) (by decide)
        have bv75 : -21474837 ≤ v75.toInt ∧ v75.toInt ≤ 21474837 := by omega
        refine xi_idiv (pc' := 156) (v := v75) kc_37_155 rfl ev75 (by decide) ?_
        obtain ⟨v76, ev76⟩ : ∃ q : Int32, r16 - v75 = q := ⟨_, rfl⟩
        have zv76 : v76.toInt = (r16.toInt + (-1) * v75.toInt) := by rw [← ev76]; exact (xz_sub (X := r16.toInt) (Y := v75.toInt) rfl rfl (by omega) (by omega)).trans (by omega)
        refine xi_isub (pc' := 157) (v := v76) kc_37_156 rfl ev76 ?_
        refine xi_static (mj := 39) (as := [.int v76]) (st1 := []) (lv0 := [(0, .int v76)]) kc_37_157 rfl rfl (Nat.le_of_ble_eq_true rfl) rfl rfl (Nat.le_of_ble_eq_true rfl) (hJ _ _ _ _ (by decide)) (xm_le ml_39 rfl) rfl ?_
        refine mt_39_0 hJ hov1 hov2 (d := d + 1) (x0 := v76) K43.1 (fun r77 hh78 br77 K79 => ?_)
        have K80 := xk_tr K43 K79 (xsb_ok _ _ (by decide +kernel))
        obtain ⟨u81, u82, u83, u84, u85, u86, u87, u88, u89, u90, u91, u92, u93, bu81, bu82, bu83, bu84, bu85, bu86, bu87, bu88, bu89, bu90, bu91, bu92, bu93, A94⟩ := xq_115 K80.1
        have e95 : u2 = u82 := xk_eqi (q := 1) K79 (by decide +kernel) A57 A94 rfl rfl
        subst e95
        have e96 : u5 = u85 := xk_eqi (q := 23) K79 (by decide +kernel) A57 A94 rfl rfl
        subst e96
        have e97 : u8 = u88 := xk_eqi (q := 34) K79 (by decide +kernel) A57 A94 rfl rfl
        subst e97
        have e98 : u6 = u86 := xk_eqi (q := 32) K79 (by decide +kernel) A57 A94 rfl rfl
        subst e98
        have A99 := xk_eqa (q := 0) K79 (by decide +kernel) A62
        have A100 := xk_eqa (q := 0) K79 (by decide +kernel) A66
        have A101 := xk_eqa (q := 0) K79 (by decide +kernel) A68
        have A102 := xk_eqa (q := 0) K79 (by decide +kernel) A71
        show xw J ov (d + 3) 37 (160, [(6, .int v64), (5, .int r16), (0, .ref 115), (1, .int x1), (2, .int x2), (3, .int x3), (4, .int x4)], [.int r77], hh78) _
        refine xi_istore (pc' := 162) (lv' := [(5, .int r77), (6, .int v64), (0, .ref 115), (1, .int x1), (2, .int x2), (3, .int x3), (4, .int x4)]) kc_37_160 rfl rfl (xm_lt ml_37 rfl) ?_
        refine xi_aload_n (pc' := 163) (x := 115) kc_37_162 rfl rfl ?_
        refine xi_getfield (pc' := 166) (v := .ref 116) kc_37_163 rfl rfl rfl A94 rfl ?_
        refine xi_iload_n (pc' := 167) (x := x1) kc_37_166 rfl rfl ?_
        refine xi_iaload (pc' := 168) (v := v39) kc_37_167 rfl A99 (by decide) rfl (xi_in (by omega) (by rw [hy38]; omega)) ev39 ?_
        refine xi_aload_n (pc' := 169) (x := 115) kc_37_168 rfl rfl ?_
        refine xi_getfield (pc' := 172) (v := .ref 117) kc_37_169 rfl rfl rfl A94 rfl ?_
        refine xi_iload_n (pc' := 173) (x := x1) kc_37_172 rfl rfl ?_
        obtain ⟨y103, A103, hy103, ry103⟩ := xk_arr K80.1 xD_117
        obtain ⟨v104, ev104, bv104, dv104⟩ := xj_get hy103 ry103 (i := x1) (by omega) (by omega)
        refine xi_iaload (pc' := 174) (v := v104) kc_37_173 rfl A103 (by decide) rfl (xi_in (by omega) (by rw [hy103]; omega)) ev104 ?_
        refine xi_static (mj := 22) (as := [.int v104]) (st1 := [.int v39]) (lv0 := [(0, .int v104)]) kc_37_174 rfl rfl (Nat.le_of_ble_eq_true rfl) rfl rfl (Nat.le_of_ble_eq_true rfl) (hJ _ _ _ _ (by decide)) (xm_le ml_22 rfl) rfl ?_
        refine mt_22_0 hJ hov1 hov2 (d := d + 1) (x0 := v104) K80.1 (fun r105 hh106 br105 K107 => ?_)
        have K108 := xk_tr K80 K107 (xsb_ok _ _ (by decide +kernel))
        obtain ⟨u109, u110, u111, u112, u113, u114, u115, u116, u117, u118, u119, u120, u121, bu109, bu110, bu111, bu112, bu113, bu114, bu115, bu116, bu117, bu118, bu119, bu120, bu121, A122⟩ := xq_115 K108.1
        have e123 : u2 = u110 := xk_eqi (q := 1) K107 (by decide +kernel) A94 A122 rfl rfl
        subst e123
        have e124 : u5 = u113 := xk_eqi (q := 23) K107 (by decide +kernel) A94 A122 rfl rfl
        subst e124
        have e125 : u8 = u116 := xk_eqi (q := 34) K107 (by decide +kernel) A94 A122 rfl rfl
        subst e125
        have e126 : u6 = u114 := xk_eqi (q := 32) K107 (by decide +kernel) A94 A122 rfl rfl
        subst e126
        have A127 := xk_eqa (q := 0) K107 (by decide +kernel) A99
        have A128 := xk_eqa (q := 0) K107 (by decide +kernel) A100
        have A129 := xk_eqa (q := 0) K107 (by decide +kernel) A101
        have A130 := xk_eqa (q := 0) K107 (by decide +kernel) A102
        have A131 := xk_eqa (q := 0) K107 (by decide +kernel) A103
        show xw J ov (d + 3) 37 (177, [(5, .int r77), (6, .int v64), (0, .ref 115), (1, .int x1), (2, .int x2), (3, .int x3), (4, .int x4)], [.int r105, .int v39], hh106) _
        obtain ⟨v132, ev132⟩ : ∃ q : Int32, (v39 : Int32) * r105 = q := ⟨_, rfl⟩
        have rv132 := xc_rng v132
        refine xi_imul (pc' := 178) (v := v132) kc_37_177 rfl ev132 ?_
        refine xi_istore (pc' := 180) (lv' := [(7, .int v132), (5, .int r77), (6, .int v64), (0, .ref 115), (1, .int x1), (2, .int x2), (3, .int x3), (4, .int x4)]) kc_37_178 rfl rfl (xm_lt ml_37 rfl) ?_
        refine xi_iload (pc' := 182) (x := r77) kc_37_180 rfl rfl ?_
        refine xi_iload (pc' := 184) (x := v132) kc_37_182 rfl rfl ?_
        by_cases c133 : r77.toInt ≤ v132.toInt
        · refine xi_cmt (pc' := 195) kc_37_184 rfl (xc_le_t (X := r77.toInt) (Y := v132.toInt) rfl rfl (by omega)) ?_
          refine xi_iconst (pc' := 196) (v := 0) kc_37_195 rfl rfl ?_
          refine xi_istore (pc' := 198) (lv' := [(8, .int 0), (7, .int v132), (5, .int r77), (6, .int v64), (0, .ref 115), (1, .int x1), (2, .int x2), (3, .int x3), (4, .int x4)]) kc_37_196 rfl rfl (xm_lt ml_37 rfl) ?_
          refine xi_aload_n (pc' := 199) (x := 115) kc_37_198 rfl rfl ?_
          refine xi_getfield (pc' := 202) (v := .ref 141) kc_37_199 rfl rfl rfl A122 rfl ?_
          refine xi_iload_n (pc' := 203) (x := x1) kc_37_202 rfl rfl ?_
          refine xi_iload (pc' := 205) (x := r77) kc_37_203 rfl rfl ?_
          refine xi_iload (pc' := 207) (x := 0) kc_37_205 rfl rfl ?_
          obtain ⟨v134, ev134⟩ : ∃ q : Int32, r77 - 0 = q := ⟨_, rfl⟩
          have zv134 : v134.toInt = r77.toInt := by rw [← ev134]; exact (xz_sub (X := r77.toInt) (Y := 0) rfl (by decide) (by omega) (by omega)).trans (by omega)
          refine xi_isub (pc' := 208) (v := v134) kc_37_207 rfl ev134 ?_
          obtain ⟨y135, A135, hy135, ry135⟩ := xk_arr K108.1 xD_141
          obtain ⟨y136, s136, hy136, ry136⟩ := xj_set (v := v134) hy135 ry135 x1 (by first | omega | decide) (by first | omega | decide)
          refine xi_iastore (pc' := 209) (x' := y136) kc_37_208 rfl A135 rfl (xi_in (by omega) (by rw [hy135]; omega)) s136 (fun hh136 eh136 => ?_)
          have K137 := xk_pa K108 (xk_wa (by decide +kernel)) xD_141 hy136 ry136 eh136
          refine xi_iload (pc' := 211) (x := 0) kc_37_209 rfl rfl ?_
          refine xi_ift (pc' := 221) kc_37_211 rfl rfl ?_
          refine xi_return kc_37_221 mr_37 ?_
          exact kk hh136 K137
        · refine xi_cmf (pc' := 187) kc_37_184 rfl (xc_le_f (X := r77.toInt) (Y := v132.toInt) rfl rfl (by omega)) ?_
          refine xi_iload (pc' := 189) (x := r77) kc_37_187 rfl rfl ?_
          refine xi_iload (pc' := 191) (x := v132) kc_37_189 rfl rfl ?_
          obtain ⟨v138, ev138⟩ : ∃ q : Int32, (r77 : Int32) - v132 = q := ⟨_, rfl⟩
          have rv138 := xc_rng v138
          refine xi_isub (pc' := 192) (v := v138) kc_37_191 rfl ev138 ?_
          refine xi_goto (pc' := 196) kc_37_192 rfl ?_
          refine xi_istore (pc' := 198) (lv' := [(8, .int v138), (7, .int v132), (5, .int r77), (6, .int v64), (0, .ref 115), (1, .int x1), (2, .int x2), (3, .int x3), (4, .int x4)]) kc_37_196 rfl rfl (xm_lt ml_37 rfl) ?_
          refine xi_aload_n (pc' := 199) (x := 115) kc_37_198 rfl rfl ?_
          refine xi_getfield (pc' := 202) (v := .ref 141) kc_37_199 rfl rfl rfl A122 rfl ?_
          refine xi_iload_n (pc' := 203) (x := x1) kc_37_202 rfl rfl ?_
          refine xi_iload (pc' := 205) (x := r77) kc_37_203 rfl rfl ?_
          refine xi_iload (pc' := 207) (x := v138) kc_37_205 rfl rfl ?_
          obtain ⟨v139, ev139⟩ : ∃ q : Int32, (r77 : Int32) - v138 = q := ⟨_, rfl⟩
          have rv139 := xc_rng v139
          refine xi_isub (pc' := 208) (v := v139) kc_37_207 rfl ev139 ?_
          obtain ⟨y140, A140, hy140, ry140⟩ := xk_arr K108.1 xD_141
          obtain ⟨y141, s141, hy141, ry141⟩ := xj_set (v := v139) hy140 ry140 x1 (by first | omega | decide) (by first | omega | decide)
          refine xi_iastore (pc' := 209) (x' := y141) kc_37_208 rfl A140 rfl (xi_in (by omega) (by rw [hy140]; omega)) s141 (fun hh141 eh141 => ?_)
          have K142 := xk_pa K108 (xk_wa (by decide +kernel)) xD_141 hy141 ry141 eh141
          refine xi_iload (pc' := 211) (x := v138) kc_37_209 rfl rfl ?_
          by_cases c143 : v138.toInt ≤ 0
          · refine xi_ift (pc' := 221) kc_37_211 rfl (xc_le_t (X := v138.toInt) (Y := 0) rfl (by decide) (by omega)) ?_
            refine xi_return kc_37_221 mr_37 ?_
            exact kk hh141 K142
          · refine xi_iff (pc' := 214) kc_37_211 rfl (xc_le_f (X := v138.toInt) (Y := 0) rfl (by decide) (by omega)) ?_
            refine xi_aload_n (pc' := 215) (x := 115) kc_37_214 rfl rfl ?_
            refine xi_iload_n (pc' := 216) (x := x1) kc_37_215 rfl rfl ?_
            refine xi_iload (pc' := 218) (x := v138) kc_37_216 rfl rfl ?_
            have A144 := ((eh141.2.1 115 (by decide)).trans A122)
            refine xi_virtual (mj := 40) (as := [.int x1, .int v138]) (st1 := []) (lv0 := [(0, .ref 115), (1, .int x1), (2, .int v138)]) kc_37_218 rfl rfl rfl rfl rfl A144 (Nat.le_of_ble_eq_true rfl) (hJ _ _ _ _ (by decide)) (xm_le ml_40 rfl) rfl ?_
            refine mt_40_0 hJ hov1 hov2 (d := d) (x1 := x1) (x2 := v138) K142.1 (by first | omega | decide) (by first | omega | decide) (fun hh146 K147 => ?_)
            have A148 := ((eh141.2.1 116 (by decide)).trans A127)
            have A149 := ((eh141.2.1 118 (by decide)).trans A128)
            have A150 := ((eh141.2.1 120 (by decide)).trans A129)
            have A151 := ((eh141.2.1 119 (by decide)).trans A130)
            have A152 := ((eh141.2.1 117 (by decide)).trans A131)
            have K153 := xk_tr K142 K147 (xsb_ok _ _ (by decide +kernel))
            obtain ⟨u154, u155, u156, u157, u158, u159, u160, u161, u162, u163, u164, u165, u166, bu154, bu155, bu156, bu157, bu158, bu159, bu160, bu161, bu162, bu163, bu164, bu165, bu166, A167⟩ := xq_115 K153.1
            have e168 : u2 = u155 := xk_eqi (q := 1) K147 (by decide +kernel) A144 A167 rfl rfl
            subst e168
            have e169 : u5 = u158 := xk_eqi (q := 23) K147 (by decide +kernel) A144 A167 rfl rfl
            subst e169
            have e170 : u8 = u161 := xk_eqi (q := 34) K147 (by decide +kernel) A144 A167 rfl rfl
            subst e170
            have e171 : u6 = u159 := xk_eqi (q := 32) K147 (by decide +kernel) A144 A167 rfl rfl
            subst e171
            have A172 := xk_eqa (q := 0) K147 (by decide +kernel) A148
            have A173 := xk_eqa (q := 0) K147 (by decide +kernel) A149
            have A174 := xk_eqa (q := 0) K147 (by decide +kernel) A150
            have A175 := xk_eqa (q := 0) K147 (by decide +kernel) A151
            have A176 := xk_eqa (q := 0) K147 (by decide +kernel) A152
            have A177 := xk_eqa (q := 0) K147 (by decide +kernel) eh141.1
            show xw J ov (d + 3) 37 (221, [(8, .int v138), (7, .int v132), (5, .int r77), (6, .int v64), (0, .ref 115), (1, .int x1), (2, .int x2), (3, .int x3), (4, .int x4)], [], hh146) _
            refine xi_return kc_37_221 mr_37 ?_
            exact kk hh146 K153
      · refine xi_cmt (pc' := 150) kc_37_138 rfl (xc_ne_t (X := v69.toInt) (Y := 1) rfl (by decide) (by omega)) ?_
        refine xi_iconst (pc' := 151) (v := 0) kc_37_150 rfl rfl ?_
        obtain ⟨v178, ev178⟩ : ∃ q : Int32, v67 + 0 = q := ⟨_, rfl⟩
        have zv178 : v178.toInt = v67.toInt := by rw [← ev178]; exact (xz_add (X := v67.toInt) (Y := 0) rfl (by decide) (by omega) (by omega)).trans (by omega)
        refine xi_iadd (pc' := 152) (v := v178) kc_37_151 rfl ev178 ?_
        obtain ⟨v179, ev179⟩ : ∃ q : Int32, (v65 : Int32) * v178 = q := ⟨_, rfl⟩
        have rv179 := xc_rng v179
        refine xi_imul (pc' := 153) (v := v179) kc_37_152 rfl ev179 ?_
        refine xi_bipush (pc' := 155) (v := 100) kc_37_153 rfl rfl ?_
        obtain ⟨v180, ev180⟩ : ∃ q : Int32, v179 / 100 = q := ⟨_, rfl⟩
        have dv180 : 100 * v180.toInt ≤ v179.toInt + 99 ∧ v179.toInt ≤ 100 * v180.toInt + 99 := by rw [← ev180]; exact xz_div (X := v179.toInt) (Y := 100) rfl (by decide) (by decide)
        have bv180 : -21474837 ≤ v180.toInt ∧ v180.toInt ≤ 21474837 := by omega
        refine xi_idiv (pc' := 156) (v := v180) kc_37_155 rfl ev180 (by decide) ?_
        obtain ⟨v181, ev181⟩ : ∃ q : Int32, r16 - v180 = q := ⟨_, rfl⟩
        have zv181 : v181.toInt = (r16.toInt + (-1) * v180.toInt) := by rw [← ev181]; exact (xz_sub (X := r16.toInt) (Y := v180.toInt) rfl rfl (by omega) (by omega)).trans (by omega)
        refine xi_isub (pc' := 157) (v := v181) kc_37_156 rfl ev181 ?_
        refine xi_static (mj := 39) (as := [.int v181]) (st1 := []) (lv0 := [(0, .int v181)]) kc_37_157 rfl rfl (Nat.le_of_ble_eq_true rfl) rfl rfl (Nat.le_of_ble_eq_true rfl) (hJ _ _ _ _ (by decide)) (xm_le ml_39 rfl) rfl ?_
        refine mt_39_0 hJ hov1 hov2 (d := d + 1) (x0 := v181) K43.1 (fun r182 hh183 br182 K184 => ?_)
        have K185 := xk_tr K43 K184 (xsb_ok _ _ (by decide +kernel))
        obtain ⟨u186, u187, u188, u189, u190, u191, u192, u193, u194, u195, u196, u197, u198, bu186, bu187, bu188, bu189, bu190, bu191, bu192, bu193, bu194, bu195, bu196, bu197, bu198, A199⟩ := xq_115 K185.1
        have e200 : u2 = u187 := xk_eqi (q := 1) K184 (by decide +kernel) A57 A199 rfl rfl
        subst e200
        have e201 : u5 = u190 := xk_eqi (q := 23) K184 (by decide +kernel) A57 A199 rfl rfl
        subst e201
        have e202 : u8 = u193 := xk_eqi (q := 34) K184 (by decide +kernel) A57 A199 rfl rfl
        subst e202
        have e203 : u6 = u191 := xk_eqi (q := 32) K184 (by decide +kernel) A57 A199 rfl rfl
        subst e203
        have A204 := xk_eqa (q := 0) K184 (by decide +kernel) A62
        have A205 := xk_eqa (q := 0) K184 (by decide +kernel) A66
        have A206 := xk_eqa (q := 0) K184 (by decide +kernel) A68
        show xw J ov (d + 3) 37 (160, [(6, .int v64), (5, .int r16), (0, .ref 115), (1, .int x1), (2, .int x2), (3, .int x3), (4, .int x4)], [.int r182], hh183) _
        refine xi_istore (pc' := 162) (lv' := [(5, .int r182), (6, .int v64), (0, .ref 115), (1, .int x1), (2, .int x2), (3, .int x3), (4, .int x4)]) kc_37_160 rfl rfl (xm_lt ml_37 rfl) ?_
        refine xi_aload_n (pc' := 163) (x := 115) kc_37_162 rfl rfl ?_
        refine xi_getfield (pc' := 166) (v := .ref 116) kc_37_163 rfl rfl rfl A199 rfl ?_
        refine xi_iload_n (pc' := 167) (x := x1) kc_37_166 rfl rfl ?_
        refine xi_iaload (pc' := 168) (v := v39) kc_37_167 rfl A204 (by decide) rfl (xi_in (by omega) (by rw [hy38]; omega)) ev39 ?_
        refine xi_aload_n (pc' := 169) (x := 115) kc_37_168 rfl rfl ?_
        refine xi_getfield (pc' := 172) (v := .ref 117) kc_37_169 rfl rfl rfl A199 rfl ?_
        refine xi_iload_n (pc' := 173) (x := x1) kc_37_172 rfl rfl ?_
        obtain ⟨y207, A207, hy207, ry207⟩ := xk_arr K185.1 xD_117
        obtain ⟨v208, ev208, bv208, dv208⟩ := xj_get hy207 ry207 (i := x1) (by omega) (by omega)
        refine xi_iaload (pc' := 174) (v := v208) kc_37_173 rfl A207 (by decide) rfl (xi_in (by omega) (by rw [hy207]; omega)) ev208 ?_
        refine xi_static (mj := 22) (as := [.int v208]) (st1 := [.int v39]) (lv0 := [(0, .int v208)]) kc_37_174 rfl rfl (Nat.le_of_ble_eq_true rfl) rfl rfl (Nat.le_of_ble_eq_true rfl) (hJ _ _ _ _ (by decide)) (xm_le ml_22 rfl) rfl ?_
        refine mt_22_0 hJ hov1 hov2 (d := d + 1) (x0 := v208) K185.1 (fun r209 hh210 br209 K211 => ?_)
        have K212 := xk_tr K185 K211 (xsb_ok _ _ (by decide +kernel))
        obtain ⟨u213, u214, u215, u216, u217, u218, u219, u220, u221, u222, u223, u224, u225, bu213, bu214, bu215, bu216, bu217, bu218, bu219, bu220, bu221, bu222, bu223, bu224, bu225, A226⟩ := xq_115 K212.1
        have e227 : u2 = u214 := xk_eqi (q := 1) K211 (by decide +kernel) A199 A226 rfl rfl
        subst e227
        have e228 : u5 = u217 := xk_eqi (q := 23) K211 (by decide +kernel) A199 A226 rfl rfl
        subst e228
        have e229 : u8 = u220 := xk_eqi (q := 34) K211 (by decide +kernel) A199 A226 rfl rfl
        subst e229
        have e230 : u6 = u218 := xk_eqi (q := 32) K211 (by decide +kernel) A199 A226 rfl rfl
        subst e230
        have A231 := xk_eqa (q := 0) K211 (by decide +kernel) A204
        have A232 := xk_eqa (q := 0) K211 (by decide +kernel) A205
        have A233 := xk_eqa (q := 0) K211 (by decide +kernel) A206
        have A234 := xk_eqa (q := 0) K211 (by decide +kernel) A207
        show xw J ov (d + 3) 37 (177, [(5, .int r182), (6, .int v64), (0, .ref 115), (1, .int x1), (2, .int x2), (3, .int x3), (4, .int x4)], [.int r209, .int v39], hh210) _
        obtain ⟨v235, ev235⟩ : ∃ q : Int32, (v39 : Int32) * r209 = q := ⟨_, rfl⟩
        have rv235 := xc_rng v235
        refine xi_imul (pc' := 178) (v := v235) kc_37_177 rfl ev235 ?_
        refine xi_istore (pc' := 180) (lv' := [(7, .int v235), (5, .int r182), (6, .int v64), (0, .ref 115), (1, .int x1), (2, .int x2), (3, .int x3), (4, .int x4)]) kc_37_178 rfl rfl (xm_lt ml_37 rfl) ?_
        refine xi_iload (pc' := 182) (x := r182) kc_37_180 rfl rfl ?_
        refine xi_iload (pc' := 184) (x := v235) kc_37_182 rfl rfl ?_
        by_cases c236 : r182.toInt ≤ v235.toInt
        · refine xi_cmt (pc' := 195) kc_37_184 rfl (xc_le_t (X := r182.toInt) (Y := v235.toInt) rfl rfl (by omega)) ?_
          refine xi_iconst (pc' := 196) (v := 0) kc_37_195 rfl rfl ?_
          refine xi_istore (pc' := 198) (lv' := [(8, .int 0), (7, .int v235), (5, .int r182), (6, .int v64), (0, .ref 115), (1, .int x1), (2, .int x2), (3, .int x3), (4, .int x4)]) kc_37_196 rfl rfl (xm_lt ml_37 rfl) ?_
          refine xi_aload_n (pc' := 199) (x := 115) kc_37_198 rfl rfl ?_
          refine xi_getfield (pc' := 202) (v := .ref 141) kc_37_199 rfl rfl rfl A226 rfl ?_
          refine xi_iload_n (pc' := 203) (x := x1) kc_37_202 rfl rfl ?_
          refine xi_iload (pc' := 205) (x := r182) kc_37_203 rfl rfl ?_
          refine xi_iload (pc' := 207) (x := 0) kc_37_205 rfl rfl ?_
          obtain ⟨v237, ev237⟩ : ∃ q : Int32, r182 - 0 = q := ⟨_, rfl⟩
          have zv237 : v237.toInt = r182.toInt := by rw [← ev237]; exact (xz_sub (X := r182.toInt) (Y := 0) rfl (by decide) (by omega) (by omega)).trans (by omega)
          refine xi_isub (pc' := 208) (v := v237) kc_37_207 rfl ev237 ?_
          obtain ⟨y238, A238, hy238, ry238⟩ := xk_arr K212.1 xD_141
          obtain ⟨y239, s239, hy239, ry239⟩ := xj_set (v := v237) hy238 ry238 x1 (by first | omega | decide) (by first | omega | decide)
          refine xi_iastore (pc' := 209) (x' := y239) kc_37_208 rfl A238 rfl (xi_in (by omega) (by rw [hy238]; omega)) s239 (fun hh239 eh239 => ?_)
          have K240 := xk_pa K212 (xk_wa (by decide +kernel)) xD_141 hy239 ry239 eh239
          refine xi_iload (pc' := 211) (x := 0) kc_37_209 rfl rfl ?_
          refine xi_ift (pc' := 221) kc_37_211 rfl rfl ?_
          refine xi_return kc_37_221 mr_37 ?_
          exact kk hh239 K240
        · refine xi_cmf (pc' := 187) kc_37_184 rfl (xc_le_f (X := r182.toInt) (Y := v235.toInt) rfl rfl (by omega)) ?_
          refine xi_iload (pc' := 189) (x := r182) kc_37_187 rfl rfl ?_
          refine xi_iload (pc' := 191) (x := v235) kc_37_189 rfl rfl ?_
          obtain ⟨v241, ev241⟩ : ∃ q : Int32, (r182 : Int32) - v235 = q := ⟨_, rfl⟩
          have rv241 := xc_rng v241
          refine xi_isub (pc' := 192) (v := v241) kc_37_191 rfl ev241 ?_
          refine xi_goto (pc' := 196) kc_37_192 rfl ?_
          refine xi_istore (pc' := 198) (lv' := [(8, .int v241), (7, .int v235), (5, .int r182), (6, .int v64), (0, .ref 115), (1, .int x1), (2, .int x2), (3, .int x3), (4, .int x4)]) kc_37_196 rfl rfl (xm_lt ml_37 rfl) ?_
          refine xi_aload_n (pc' := 199) (x := 115) kc_37_198 rfl rfl ?_
          refine xi_getfield (pc' := 202) (v := .ref 141) kc_37_199 rfl rfl rfl A226 rfl ?_
          refine xi_iload_n (pc' := 203) (x := x1) kc_37_202 rfl rfl ?_
          refine xi_iload (pc' := 205) (x := r182) kc_37_203 rfl rfl ?_
          refine xi_iload (pc' := 207) (x := v241) kc_37_205 rfl rfl ?_
          obtain ⟨v242, ev242⟩ : ∃ q : Int32, (r182 : Int32) - v241 = q := ⟨_, rfl⟩
          have rv242 := xc_rng v242
          refine xi_isub (pc' := 208) (v := v242) kc_37_207 rfl ev242 ?_
          obtain ⟨y243, A243, hy243, ry243⟩ := xk_arr K212.1 xD_141
          obtain ⟨y244, s244, hy244, ry244⟩ := xj_set (v := v242) hy243 ry243 x1 (by first | omega | decide) (by first | omega | decide)
          refine xi_iastore (pc' := 209) (x' := y244) kc_37_208 rfl A243 rfl (xi_in (by omega) (by rw [hy243]; omega)) s244 (fun hh244 eh244 => ?_)
          have K245 := xk_pa K212 (xk_wa (by decide +kernel)) xD_141 hy244 ry244 eh244
          refine xi_iload (pc' := 211) (x := v241) kc_37_209 rfl rfl ?_
          by_cases c246 : v241.toInt ≤ 0
          · refine xi_ift (pc' := 221) kc_37_211 rfl (xc_le_t (X := v241.toInt) (Y := 0) rfl (by decide) (by omega)) ?_
            refine xi_return kc_37_221 mr_37 ?_
            exact kk hh244 K245
          · refine xi_iff (pc' := 214) kc_37_211 rfl (xc_le_f (X := v241.toInt) (Y := 0) rfl (by decide) (by omega)) ?_
            refine xi_aload_n (pc' := 215) (x := 115) kc_37_214 rfl rfl ?_
            refine xi_iload_n (pc' := 216) (x := x1) kc_37_215 rfl rfl ?_
            refine xi_iload (pc' := 218) (x := v241) kc_37_216 rfl rfl ?_
            have A247 := ((eh244.2.1 115 (by decide)).trans A226)
            refine xi_virtual (mj := 40) (as := [.int x1, .int v241]) (st1 := []) (lv0 := [(0, .ref 115), (1, .int x1), (2, .int v241)]) kc_37_218 rfl rfl rfl rfl rfl A247 (Nat.le_of_ble_eq_true rfl) (hJ _ _ _ _ (by decide)) (xm_le ml_40 rfl) rfl ?_
            refine mt_40_0 hJ hov1 hov2 (d := d) (x1 := x1) (x2 := v241) K245.1 (by first | omega | decide) (by first | omega | decide) (fun hh249 K250 => ?_)
            have A251 := ((eh244.2.1 116 (by decide)).trans A231)
            have A252 := ((eh244.2.1 118 (by decide)).trans A232)
            have A253 := ((eh244.2.1 120 (by decide)).trans A233)
            have A254 := ((eh244.2.1 117 (by decide)).trans A234)
            have K255 := xk_tr K245 K250 (xsb_ok _ _ (by decide +kernel))
            obtain ⟨u256, u257, u258, u259, u260, u261, u262, u263, u264, u265, u266, u267, u268, bu256, bu257, bu258, bu259, bu260, bu261, bu262, bu263, bu264, bu265, bu266, bu267, bu268, A269⟩ := xq_115 K255.1
            have e270 : u2 = u257 := xk_eqi (q := 1) K250 (by decide +kernel) A247 A269 rfl rfl
            subst e270
            have e271 : u5 = u260 := xk_eqi (q := 23) K250 (by decide +kernel) A247 A269 rfl rfl
            subst e271
            have e272 : u8 = u263 := xk_eqi (q := 34) K250 (by decide +kernel) A247 A269 rfl rfl
            subst e272
            have e273 : u6 = u261 := xk_eqi (q := 32) K250 (by decide +kernel) A247 A269 rfl rfl
            subst e273
            have A274 := xk_eqa (q := 0) K250 (by decide +kernel) A251
            have A275 := xk_eqa (q := 0) K250 (by decide +kernel) A252
            have A276 := xk_eqa (q := 0) K250 (by decide +kernel) A253
            have A277 := xk_eqa (q := 0) K250 (by decide +kernel) A254
            have A278 := xk_eqa (q := 0) K250 (by decide +kernel) eh244.1
            show xw J ov (d + 3) 37 (221, [(8, .int v241), (7, .int v235), (5, .int r182), (6, .int v64), (0, .ref 115), (1, .int x1), (2, .int x2), (3, .int x3), (4, .int x4)], [], hh249) _
            refine xi_return kc_37_221 mr_37 ?_
            exact kk hh249 K255
    · refine xi_cmf (pc' := 36) kc_37_33 rfl (xc_ge_f (X := x6.toInt) (Y := u5.toInt) rfl rfl (by omega)) ?_
      refine xi_iload (pc' := 38) (x := x5) kc_37_36 rfl rfl ?_
      refine xi_aload_n (pc' := 39) (x := 115) kc_37_38 rfl rfl ?_
      refine xi_getfield (pc' := 42) (v := .ref 135) kc_37_39 rfl rfl rfl A14 rfl ?_
      refine xi_iload (pc' := 44) (x := x6) kc_37_42 rfl rfl ?_
      obtain ⟨y279, A279, hy279, ry279⟩ := xk_arr K.1 xD_135
      obtain ⟨v280, ev280, bv280, dv280⟩ := xj_get hy279 ry279 (i := x6) (by omega) (by omega)
      refine xi_iaload (pc' := 45) (v := v280) kc_37_44 rfl A279 (by decide) rfl (xi_in (by omega) (by rw [hy279]; omega)) ev280 ?_
      refine xi_iconst (pc' := 46) (v := 3) kc_37_45 rfl rfl ?_
      by_cases c281 : v280.toInt = 3
      · refine xi_cmf (pc' := 49) kc_37_46 rfl (xc_ne_f (X := v280.toInt) (Y := 3) rfl (by decide) (by omega)) ?_
        refine xi_aload_n (pc' := 50) (x := 115) kc_37_49 rfl rfl ?_
        refine xi_getfield (pc' := 53) (v := .ref 136) kc_37_50 rfl rfl rfl A14 rfl ?_
        refine xi_iload (pc' := 55) (x := x6) kc_37_53 rfl rfl ?_
        obtain ⟨y282, A282, hy282, ry282⟩ := xk_arr K.1 xD_136
        obtain ⟨v283, ev283, bv283, dv283⟩ := xj_get hy282 ry282 (i := x6) (by omega) (by omega)
        refine xi_iaload (pc' := 56) (v := v283) kc_37_55 rfl A282 (by decide) rfl (xi_in (by omega) (by rw [hy282]; omega)) ev283 ?_
        refine xi_iload_n (pc' := 57) (x := x1) kc_37_56 rfl rfl ?_
        by_cases c284 : v283.toInt = x1.toInt
        · refine xi_cmf (pc' := 60) kc_37_57 rfl (xc_ne_f (X := v283.toInt) (Y := x1.toInt) rfl rfl (by omega)) ?_
          refine xi_aload_n (pc' := 61) (x := 115) kc_37_60 rfl rfl ?_
          refine xi_iload (pc' := 63) (x := x6) kc_37_61 rfl rfl ?_
          refine xi_iload_n (pc' := 64) (x := x2) kc_37_63 rfl rfl ?_
          refine xi_iload_n (pc' := 65) (x := x3) kc_37_64 rfl rfl ?_
          refine xi_iload (pc' := 67) (x := x4) kc_37_65 rfl rfl ?_
          refine xi_virtual (mj := 38) (as := [.int x6, .int x2, .int x3, .int x4]) (st1 := [.int x5]) (lv0 := [(0, .ref 115), (1, .int x6), (2, .int x2), (3, .int x3), (4, .int x4)]) kc_37_67 rfl rfl rfl rfl rfl A14 (Nat.le_of_ble_eq_true rfl) (hJ _ _ _ _ (by decide)) (xm_le ml_38 rfl) rfl ?_
          refine mt_38_0 hJ hov1 hov2 (d := d + 1) (x1 := x6) (x2 := x2) (x3 := x3) (x4 := x4) K.1 (by first | omega | decide) (by first | omega | decide) (by first | omega | decide) (by first | omega | decide) (fun r285 hh286 br285 K287 => ?_)
          have K288 := xk_tr K K287 (xsb_ok _ _ (by decide +kernel))
          obtain ⟨u289, u290, u291, u292, u293, u294, u295, u296, u297, u298, u299, u300, u301, bu289, bu290, bu291, bu292, bu293, bu294, bu295, bu296, bu297, bu298, bu299, bu300, bu301, A302⟩ := xq_115 K288.1
          have e303 : u2 = u290 := xk_eqi (q := 1) K287 (by decide +kernel) A14 A302 rfl rfl
          subst e303
          have e304 : u5 = u293 := xk_eqi (q := 23) K287 (by decide +kernel) A14 A302 rfl rfl
          subst e304
          have e305 : u8 = u296 := xk_eqi (q := 34) K287 (by decide +kernel) A14 A302 rfl rfl
          subst e305
          have e306 : u6 = u294 := xk_eqi (q := 32) K287 (by decide +kernel) A14 A302 rfl rfl
          subst e306
          have A307 := xk_eqa (q := 0) K287 (by decide +kernel) A279
          have A308 := xk_eqa (q := 0) K287 (by decide +kernel) A282
          show xw J ov (d + 3) 37 (70, [(0, .ref 115), (1, .int x1), (2, .int x2), (3, .int x3), (4, .int x4), (5, .int x5), (6, .int x6)], [.int r285, .int x5], hh286) _
          by_cases c309 : r285.toInt = 0
          · refine xi_ift (pc' := 83) kc_37_70 rfl (xc_eq_t (X := r285.toInt) (Y := 0) rfl (by decide) (by omega)) ?_
            refine xi_iconst (pc' := 84) (v := 0) kc_37_83 rfl rfl ?_
            obtain ⟨v310, ev310⟩ : ∃ q : Int32, x5 + 0 = q := ⟨_, rfl⟩
            have zv310 : v310.toInt = x5.toInt := by rw [← ev310]; exact (xz_add (X := x5.toInt) (Y := 0) rfl (by decide) (by omega) (by omega)).trans (by omega)
            refine xi_iadd (pc' := 85) (v := v310) kc_37_84 rfl ev310 ?_
            refine xi_istore (pc' := 87) (lv' := [(5, .int v310), (0, .ref 115), (1, .int x1), (2, .int x2), (3, .int x3), (4, .int x4), (6, .int x6)]) kc_37_85 rfl rfl (xm_lt ml_37 rfl) ?_
            obtain ⟨v311, ev311⟩ : ∃ q : Int32, x6 + 1 = q := ⟨_, rfl⟩
            have zv311 : v311.toInt = (x6.toInt + 1) := by rw [← ev311]; exact (xz_add (X := x6.toInt) (Y := 1) rfl (by decide) (by omega) (by omega)).trans (by omega)
            refine xi_iinc (pc' := 90) (x := x6) (v := v311) (lv' := [(6, .int v311), (5, .int v310), (0, .ref 115), (1, .int x1), (2, .int x2), (3, .int x3), (4, .int x4)]) kc_37_87 rfl rfl ev311 rfl (xm_lt ml_37 rfl) ?_
            refine xi_goto (pc' := 27) kc_37_90 rfl ?_
            refine xw_lv (b := [(0, .ref 115), (1, .int x1), (2, .int x2), (3, .int x3), (4, .int x4), (5, .int v310), (6, .int v311)]) (lvS_cons (lvS_cons (lvS_cons (lvS_cons (lvS_cons (lvS_cons (lvS_cons (lvS_nil (show ([6, 5, 0, 1, 2, 3, 4] : List Nat).Nodup by decide)) rfl) rfl) rfl) rfl) rfl) rfl) rfl) ?_
            exact i0 x1 x2 x3 x4 v310 v311 hh286 (by omega) (by omega) (by omega) (by omega) (by omega) K288 (by omega)
          · refine xi_iff (pc' := 73) kc_37_70 rfl (xc_eq_f (X := r285.toInt) (Y := 0) rfl (by decide) (by omega)) ?_
            refine xi_aload_n (pc' := 74) (x := 115) kc_37_73 rfl rfl ?_
            refine xi_getfield (pc' := 77) (v := .ref 137) kc_37_74 rfl rfl rfl A302 rfl ?_
            refine xi_iload (pc' := 79) (x := x6) kc_37_77 rfl rfl ?_
            obtain ⟨y312, A312, hy312, ry312⟩ := xk_arr K288.1 xD_137
            obtain ⟨v313, ev313, bv313, dv313⟩ := xj_get hy312 ry312 (i := x6) (by omega) (by omega)
            refine xi_iaload (pc' := 80) (v := v313) kc_37_79 rfl A312 (by decide) rfl (xi_in (by omega) (by rw [hy312]; omega)) ev313 ?_
            refine xi_goto (pc' := 84) kc_37_80 rfl ?_
            obtain ⟨v314, ev314⟩ : ∃ q : Int32, (x5 : Int32) + v313 = q := ⟨_, rfl⟩
            have rv314 := xc_rng v314
            refine xi_iadd (pc' := 85) (v := v314) kc_37_84 rfl ev314 ?_
            refine xi_istore (pc' := 87) (lv' := [(5, .int v314), (0, .ref 115), (1, .int x1), (2, .int x2), (3, .int x3), (4, .int x4), (6, .int x6)]) kc_37_85 rfl rfl (xm_lt ml_37 rfl) ?_
            obtain ⟨v315, ev315⟩ : ∃ q : Int32, x6 + 1 = q := ⟨_, rfl⟩
            have zv315 : v315.toInt = (x6.toInt + 1) := by rw [← ev315]; exact (xz_add (X := x6.toInt) (Y := 1) rfl (by decide) (by omega) (by omega)).trans (by omega)
            refine xi_iinc (pc' := 90) (x := x6) (v := v315) (lv' := [(6, .int v315), (5, .int v314), (0, .ref 115), (1, .int x1), (2, .int x2), (3, .int x3), (4, .int x4)]) kc_37_87 rfl rfl ev315 rfl (xm_lt ml_37 rfl) ?_
            refine xi_goto (pc' := 27) kc_37_90 rfl ?_
            refine xw_lv (b := [(0, .ref 115), (1, .int x1), (2, .int x2), (3, .int x3), (4, .int x4), (5, .int v314), (6, .int v315)]) (lvS_cons (lvS_cons (lvS_cons (lvS_cons (lvS_cons (lvS_cons (lvS_cons (lvS_nil (show ([6, 5, 0, 1, 2, 3, 4] : List Nat).Nodup by decide)) rfl) rfl) rfl) rfl) rfl) rfl) rfl) ?_
            exact i0 x1 x2 x3 x4 v314 v315 hh286 (by omega) (by omega) (by omega) (by omega) (by omega) K288 (by omega)
        · refine xi_cmt (pc' := 83) kc_37_57 rfl (xc_ne_t (X := v283.toInt) (Y := x1.toInt) rfl rfl (by omega)) ?_
          refine xi_iconst (pc' := 84) (v := 0) kc_37_83 rfl rfl ?_
          obtain ⟨v316, ev316⟩ : ∃ q : Int32, x5 + 0 = q := ⟨_, rfl⟩
          have zv316 : v316.toInt = x5.toInt := by rw [← ev316]; exact (xz_add (X := x5.toInt) (Y := 0) rfl (by decide) (by omega) (by omega)).trans (by omega)
          refine xi_iadd (pc' := 85) (v := v316) kc_37_84 rfl ev316 ?_
          refine xi_istore (pc' := 87) (lv' := [(5, .int v316), (0, .ref 115), (1, .int x1), (2, .int x2), (3, .int x3), (4, .int x4), (6, .int x6)]) kc_37_85 rfl rfl (xm_lt ml_37 rfl) ?_
          obtain ⟨v317, ev317⟩ : ∃ q : Int32, x6 + 1 = q := ⟨_, rfl⟩
          have zv317 : v317.toInt = (x6.toInt + 1) := by rw [← ev317]; exact (xz_add (X := x6.toInt) (Y := 1) rfl (by decide) (by omega) (by omega)).trans (by omega)
          refine xi_iinc (pc' := 90) (x := x6) (v := v317) (lv' := [(6, .int v317), (5, .int v316), (0, .ref 115), (1, .int x1), (2, .int x2), (3, .int x3), (4, .int x4)]) kc_37_87 rfl rfl ev317 rfl (xm_lt ml_37 rfl) ?_
          refine xi_goto (pc' := 27) kc_37_90 rfl ?_
          refine xw_lv (b := [(0, .ref 115), (1, .int x1), (2, .int x2), (3, .int x3), (4, .int x4), (5, .int v316), (6, .int v317)]) (lvS_cons (lvS_cons (lvS_cons (lvS_cons (lvS_cons (lvS_cons (lvS_cons (lvS_nil (show ([6, 5, 0, 1, 2, 3, 4] : List Nat).Nodup by decide)) rfl) rfl) rfl) rfl) rfl) rfl) rfl) ?_
          exact i0 x1 x2 x3 x4 v316 v317 h (by omega) (by omega) (by omega) (by omega) (by omega) K (by omega)
      · refine xi_cmt (pc' := 83) kc_37_46 rfl (xc_ne_t (X := v280.toInt) (Y := 3) rfl (by decide) (by omega)) ?_
        refine xi_iconst (pc' := 84) (v := 0) kc_37_83 rfl rfl ?_
        obtain ⟨v318, ev318⟩ : ∃ q : Int32, x5 + 0 = q := ⟨_, rfl⟩
        have zv318 : v318.toInt = x5.toInt := by rw [← ev318]; exact (xz_add (X := x5.toInt) (Y := 0) rfl (by decide) (by omega) (by omega)).trans (by omega)
        refine xi_iadd (pc' := 85) (v := v318) kc_37_84 rfl ev318 ?_
        refine xi_istore (pc' := 87) (lv' := [(5, .int v318), (0, .ref 115), (1, .int x1), (2, .int x2), (3, .int x3), (4, .int x4), (6, .int x6)]) kc_37_85 rfl rfl (xm_lt ml_37 rfl) ?_
        obtain ⟨v319, ev319⟩ : ∃ q : Int32, x6 + 1 = q := ⟨_, rfl⟩
        have zv319 : v319.toInt = (x6.toInt + 1) := by rw [← ev319]; exact (xz_add (X := x6.toInt) (Y := 1) rfl (by decide) (by omega) (by omega)).trans (by omega)
        refine xi_iinc (pc' := 90) (x := x6) (v := v319) (lv' := [(6, .int v319), (5, .int v318), (0, .ref 115), (1, .int x1), (2, .int x2), (3, .int x3), (4, .int x4)]) kc_37_87 rfl rfl ev319 rfl (xm_lt ml_37 rfl) ?_
        refine xi_goto (pc' := 27) kc_37_90 rfl ?_
        refine xw_lv (b := [(0, .ref 115), (1, .int x1), (2, .int x2), (3, .int x3), (4, .int x4), (5, .int v318), (6, .int v319)]) (lvS_cons (lvS_cons (lvS_cons (lvS_cons (lvS_cons (lvS_cons (lvS_cons (lvS_nil (show ([6, 5, 0, 1, 2, 3, 4] : List Nat).Nodup by decide)) rfl) rfl) rfl) rfl) rfl) rfl) rfl) ?_
        exact i0 x1 x2 x3 x4 v318 v319 h (by omega) (by omega) (by omega) (by omega) (by omega) K (by omega)
set_option maxHeartbeats 4000000 in
theorem mt_37_0 {J : xe_J} {ov : List (List Int32)} (hJ : ∀ d mj as h, mj ≠ xe_loff → J d mj as h = none) (hov1 : ov[1]? = some [10, 0, 0, 0, 0, 0]) (hov2 : ov[2]? = some [99, 30, 50, 50, 1, 99999]) {d : Nat} {Q : Option Value → xe_H → Prop} {h : xe_H} {x1 : Int32} {x2 : Int32} {x3 : Int32} {x4 : Int32} (T : xt h) (b1 : (0 ≤ x1.toInt ∧ x1.toInt ≤ 5)) (b2 : (0 ≤ x2.toInt ∧ x2.toInt ≤ 63)) (b3 : (0 ≤ x3.toInt ∧ x3.toInt ≤ 1)) (b4 : (0 ≤ x4.toInt ∧ x4.toInt ≤ 599)) (kk : (∀ h' : xe_H, xk xP_15 h h' → Q none h')) : xw J ov (d + 3) 37 (0, [(0, .ref 115), (1, .int x1), (2, .int x2), (3, .int x3), (4, .int x4)], [], h) Q := by
  have K : xk xP_15 h h := xk_re T
  refine xi_aload_n (pc' := 1) (x := 115) kc_37_0 rfl rfl ?_
  obtain ⟨u1, u2, u3, u4, u5, u6, u7, u8, u9, u10, u11, u12, u13, bu1, bu2, bu3, bu4, bu5, bu6, bu7, bu8, bu9, bu10, bu11, bu12, bu13, A14⟩ := xq_115 K.1
  refine xi_getfield (pc' := 4) (v := .ref 141) kc_37_1 rfl rfl rfl A14 rfl ?_
  refine xi_iload_n (pc' := 5) (x := x1) kc_37_4 rfl rfl ?_
  obtain ⟨y15, A15, hy15, ry15⟩ := xk_arr K.1 xD_141
  obtain ⟨v16, ev16, bv16, dv16⟩ := xj_get hy15 ry15 (i := x1) (by omega) (by omega)
  refine xi_iaload (pc' := 6) (v := v16) kc_37_5 rfl A15 (by decide) rfl (xi_in (by omega) (by rw [hy15]; omega)) ev16 ?_
  refine xi_aload_n (pc' := 7) (x := 115) kc_37_6 rfl rfl ?_
  refine xi_getfield (pc' := 10) (v := .ref 122) kc_37_7 rfl rfl rfl A14 rfl ?_
  refine xi_bipush (pc' := 12) (v := 24) kc_37_10 rfl rfl ?_
  refine xi_iload_n (pc' := 13) (x := x1) kc_37_12 rfl rfl ?_
  obtain ⟨v17, ev17⟩ : ∃ q : Int32, 24 * x1 = q := ⟨_, rfl⟩
  have zv17 : v17.toInt = (24) * x1.toInt := by rw [← ev17]; exact (xz_mul (X := 24) (Y := x1.toInt) (by decide) rfl (by omega) (by omega)).trans (by omega)
  refine xi_imul (pc' := 14) (v := v17) kc_37_13 rfl ev17 ?_
  refine xi_iload (pc' := 16) (x := x4) kc_37_14 rfl rfl ?_
  refine xi_bipush (pc' := 18) (v := 24) kc_37_16 rfl rfl ?_
  obtain ⟨v18, ev18⟩ : ∃ q : Int32, x4 - x4 / 24 * 24 = q := ⟨_, rfl⟩
  have dv18 : v18.toInt = x4.toInt % 24 := by rw [← ev18]; exact xz_reme (X := x4.toInt) (Y := 24) rfl (by decide) (by omega) (by decide)
  have bv18 : 0 ≤ v18.toInt ∧ v18.toInt ≤ 23 := by omega
  refine xi_irem (pc' := 19) (v := v18) kc_37_18 rfl ev18 (by decide) ?_
  obtain ⟨v19, ev19⟩ : ∃ q : Int32, v17 + v18 = q := ⟨_, rfl⟩
  have zv19 : v19.toInt = ((24) * x1.toInt + v18.toInt) := by rw [← ev19]; exact (xz_add (X := (24) * x1.toInt) (Y := v18.toInt) zv17 rfl (by omega) (by omega)).trans (by omega)
  refine xi_iadd (pc' := 20) (v := v19) kc_37_19 rfl ev19 ?_
  obtain ⟨y20, A20, hy20, ry20⟩ := xk_arr K.1 xD_122
  obtain ⟨v21, ev21, bv21, dv21⟩ := xj_get hy20 ry20 (i := v19) (by rw [zv19]; omega) (by rw [zv19]; omega)
  refine xi_iaload (pc' := 21) (v := v21) kc_37_20 rfl A20 (by decide) rfl (xi_in (by rw [zv19]; omega) (by rw [hy20]; rw [zv19]; omega)) ev21 ?_
  obtain ⟨v22, ev22⟩ : ∃ q : Int32, (v16 : Int32) + v21 = q := ⟨_, rfl⟩
  have rv22 := xc_rng v22
  refine xi_iadd (pc' := 22) (v := v22) kc_37_21 rfl ev22 ?_
  refine xi_istore (pc' := 24) (lv' := [(5, .int v22), (0, .ref 115), (1, .int x1), (2, .int x2), (3, .int x3), (4, .int x4)]) kc_37_22 rfl rfl (xm_lt ml_37 rfl) ?_
  refine xi_iconst (pc' := 25) (v := 0) kc_37_24 rfl rfl ?_
  refine xi_istore (pc' := 27) (lv' := [(6, .int 0), (5, .int v22), (0, .ref 115), (1, .int x1), (2, .int x2), (3, .int x3), (4, .int x4)]) kc_37_25 rfl rfl (xm_lt ml_37 rfl) ?_
  have zc0 : (0 : Int32).toInt = 0 := by decide
  refine xw_lv (b := [(0, .ref 115), (1, .int x1), (2, .int x2), (3, .int x3), (4, .int x4), (5, .int v22), (6, .int 0)]) (lvS_cons (lvS_cons (lvS_cons (lvS_cons (lvS_cons (lvS_cons (lvS_cons (lvS_nil (show ([6, 5, 0, 1, 2, 3, 4] : List Nat).Nodup by decide)) rfl) rfl) rfl) rfl) rfl) rfl) rfl) ?_
  exact (lp_37_0 hJ hov1 hov2 (d := d) (hb := h) (fun h9 K9 => kk h9 (xk_tr K K9 (xsb_ok _ _ (by decide +kernel)))) 11) x1 x2 x3 x4 v22 0 h (by omega) (by omega) (by omega) (by omega) (by omega) (xk_re K.1) (by omega)
set_option maxHeartbeats 4000000 in
theorem lp_36_0 {J : xe_J} {ov : List (List Int32)} (hJ : ∀ d mj as h, mj ≠ xe_loff → J d mj as h = none) (hov1 : ov[1]? = some [10, 0, 0, 0, 0, 0]) (hov2 : ov[2]? = some [99, 30, 50, 50, 1, 99999]) {d : Nat} {Q : Option Value → xe_H → Prop} {hb : xe_H} (kk : (∀ h' : xe_H, xk xP_15 hb h' → Q none h')) : ∀ m : Nat, (∀ (x1 : Int32) (x2 : Int32) (x3 : Int32) (x4 : Int32) (h : xe_H), (0 ≤ x1.toInt ∧ x1.toInt ≤ 63) → (0 ≤ x2.toInt ∧ x2.toInt ≤ 1) → (0 ≤ x3.toInt ∧ x3.toInt ≤ 599) → (0 ≤ x4.toInt ∧ x4.toInt ≤ 6) → xk xP_15 hb h → (-1) * x4.toInt + 30 < (m : Int) → xw J ov (d + 4) 36 (3, [(0, .ref 115), (1, .int x1), (2, .int x2), (3, .int x3), (4, .int x4)], [], h) Q) ∧ (∀ (x1 : Int32) (x2 : Int32) (x3 : Int32) (x4 : Int32) (h : xe_H), (0 ≤ x1.toInt ∧ x1.toInt ≤ 63) → (0 ≤ x2.toInt ∧ x2.toInt ≤ 1) → (0 ≤ x3.toInt ∧ x3.toInt ≤ 599) → (0 ≤ x4.toInt ∧ x4.toInt ≤ 10) → xk xP_15 hb h → (-1) * x4.toInt + 23 < (m : Int) → xw J ov (d + 4) 36 (28, [(0, .ref 115), (1, .int x1), (2, .int x2), (3, .int x3), (4, .int x4)], [], h) Q) ∧ (∀ (x4 : Int32) (h : xe_H), (0 ≤ x4.toInt ∧ x4.toInt ≤ 12) → xk xP_15 hb h → (-1) * x4.toInt + 12 < (m : Int) → xw J ov (d + 4) 36 (157, [(0, .ref 115), (4, .int x4)], [], h) Q) := by
  intro m
  induction m with
  | zero =>
    refine ⟨?_, ?_, ?_⟩
    · intro x1 x2 x3 x4 h b1 b2 b3 b4 K hm; exfalso; omega
    · intro x1 x2 x3 x4 h b1 b2 b3 b4 K hm; exfalso; omega
    · intro x4 h b4 K hm; exfalso; omega
  | succ m ih =>
    obtain ⟨i0, i1, i2⟩ := ih
    refine ⟨?_, ?_, ?_⟩
    · intro x1 x2 x3 x4 h b1 b2 b3 b4 K hm
      refine xi_iload (pc' := 5) (x := x4) kc_36_3 rfl rfl ?_
      refine xi_bipush (pc' := 7) (v := 6) kc_36_5 rfl rfl ?_
      by_cases c1 : 6 ≤ x4.toInt
      · refine xi_cmt (pc' := 25) kc_36_7 rfl (xc_ge_t (X := x4.toInt) (Y := 6) rfl (by decide) (by omega)) ?_
        refine xi_iconst (pc' := 26) (v := 0) kc_36_25 rfl rfl ?_
        refine xi_istore (pc' := 28) (lv' := [(4, .int 0), (0, .ref 115), (1, .int x1), (2, .int x2), (3, .int x3)]) kc_36_26 rfl rfl (xm_lt ml_36 rfl) ?_
        have zc0 : (0 : Int32).toInt = 0 := by decide
        refine xw_lv (b := [(0, .ref 115), (1, .int x1), (2, .int x2), (3, .int x3), (4, .int 0)]) (lvS_cons (lvS_cons (lvS_cons (lvS_cons (lvS_cons (lvS_nil (show ([4, 0, 1, 2, 3] : List Nat).Nodup by decide)) rfl) rfl) rfl) rfl) rfl) ?_
        exact i1 x1 x2 x3 0 h (by omega) (by omega) (by omega) (by omega) K (by omega)
      · refine xi_cmf (pc' := 10) kc_36_7 rfl (xc_ge_f (X := x4.toInt) (Y := 6) rfl (by decide) (by omega)) ?_
        refine xi_aload_n (pc' := 11) (x := 115) kc_36_10 rfl rfl ?_
        refine xi_iload (pc' := 13) (x := x4) kc_36_11 rfl rfl ?_
        refine xi_iload_n (pc' := 14) (x := x1) kc_36_13 rfl rfl ?_
        refine xi_iload_n (pc' := 15) (x := x2) kc_36_14 rfl rfl ?_
        refine xi_iload_n (pc' := 16) (x := x3) kc_36_15 rfl rfl ?_
        obtain ⟨u2, u3, u4, u5, u6, u7, u8, u9, u10, u11, u12, u13, u14, bu2, bu3, bu4, bu5, bu6, bu7, bu8, bu9, bu10, bu11, bu12, bu13, bu14, A15⟩ := xq_115 K.1
        refine xi_virtual (mj := 37) (as := [.int x4, .int x1, .int x2, .int x3]) (st1 := []) (lv0 := [(0, .ref 115), (1, .int x4), (2, .int x1), (3, .int x2), (4, .int x3)]) kc_36_16 rfl rfl rfl rfl rfl A15 (Nat.le_of_ble_eq_true rfl) (hJ _ _ _ _ (by decide)) (xm_le ml_37 rfl) rfl ?_
        refine mt_37_0 hJ hov1 hov2 (d := d) (x1 := x4) (x2 := x1) (x3 := x2) (x4 := x3) K.1 (by first | omega | decide) (by first | omega | decide) (by first | omega | decide) (by first | omega | decide) (fun hh17 K18 => ?_)
        have K19 := xk_tr K K18 (xsb_ok _ _ (by decide +kernel))
        obtain ⟨u20, u21, u22, u23, u24, u25, u26, u27, u28, u29, u30, u31, u32, bu20, bu21, bu22, bu23, bu24, bu25, bu26, bu27, bu28, bu29, bu30, bu31, bu32, A33⟩ := xq_115 K19.1
        have e34 : u3 = u21 := xk_eqi (q := 1) K18 (by decide +kernel) A15 A33 rfl rfl
        subst e34
        have e35 : u6 = u24 := xk_eqi (q := 23) K18 (by decide +kernel) A15 A33 rfl rfl
        subst e35
        have e36 : u9 = u27 := xk_eqi (q := 34) K18 (by decide +kernel) A15 A33 rfl rfl
        subst e36
        have e37 : u7 = u25 := xk_eqi (q := 32) K18 (by decide +kernel) A15 A33 rfl rfl
        subst e37
        show xw J ov (d + 4) 36 (19, [(0, .ref 115), (1, .int x1), (2, .int x2), (3, .int x3), (4, .int x4)], [], hh17) _
        obtain ⟨v38, ev38⟩ : ∃ q : Int32, x4 + 1 = q := ⟨_, rfl⟩
        have zv38 : v38.toInt = (x4.toInt + 1) := by rw [← ev38]; exact (xz_add (X := x4.toInt) (Y := 1) rfl (by decide) (by omega) (by omega)).trans (by omega)
        refine xi_iinc (pc' := 22) (x := x4) (v := v38) (lv' := [(4, .int v38), (0, .ref 115), (1, .int x1), (2, .int x2), (3, .int x3)]) kc_36_19 rfl rfl ev38 rfl (xm_lt ml_36 rfl) ?_
        refine xi_goto (pc' := 3) kc_36_22 rfl ?_
        refine xw_lv (b := [(0, .ref 115), (1, .int x1), (2, .int x2), (3, .int x3), (4, .int v38)]) (lvS_cons (lvS_cons (lvS_cons (lvS_cons (lvS_cons (lvS_nil (show ([4, 0, 1, 2, 3] : List Nat).Nodup by decide)) rfl) rfl) rfl) rfl) rfl) ?_
        exact i0 x1 x2 x3 v38 hh17 (by omega) (by omega) (by omega) (by omega) K19 (by omega)
    · intro x1 x2 x3 x4 h b1 b2 b3 b4 K hm
      refine xi_iload (pc' := 30) (x := x4) kc_36_28 rfl rfl ?_
      refine xi_aload_n (pc' := 31) (x := 115) kc_36_30 rfl rfl ?_
      obtain ⟨u1, u2, u3, u4, u5, u6, u7, u8, u9, u10, u11, u12, u13, bu1, bu2, bu3, bu4, bu5, bu6, bu7, bu8, bu9, bu10, bu11, bu12, bu13, A14⟩ := xq_115 K.1
      refine xi_getfield (pc' := 34) (v := .int u5) kc_36_31 rfl rfl rfl A14 rfl ?_
      by_cases c15 : u5.toInt ≤ x4.toInt
      · refine xi_cmt (pc' := 154) kc_36_34 rfl (xc_ge_t (X := x4.toInt) (Y := u5.toInt) rfl rfl (by omega)) ?_
        refine xi_iconst (pc' := 155) (v := 0) kc_36_154 rfl rfl ?_
        refine xi_istore (pc' := 157) (lv' := [(4, .int 0), (0, .ref 115), (1, .int x1), (2, .int x2), (3, .int x3)]) kc_36_155 rfl rfl (xm_lt ml_36 rfl) ?_
        have zc0 : (0 : Int32).toInt = 0 := by decide
        refine xw_lv (b := [(0, .ref 115), (4, .int 0)]) (lvS_cons (lvS_cons (lvS_nil (show ([4, 0, 1, 2, 3] : List Nat).Nodup by decide)) rfl) rfl) ?_
        exact i2 0 h (by omega) K (by omega)
      · refine xi_cmf (pc' := 37) kc_36_34 rfl (xc_ge_f (X := x4.toInt) (Y := u5.toInt) rfl rfl (by omega)) ?_
        refine xi_aload_n (pc' := 38) (x := 115) kc_36_37 rfl rfl ?_
        refine xi_getfield (pc' := 41) (v := .ref 135) kc_36_38 rfl rfl rfl A14 rfl ?_
        refine xi_iload (pc' := 43) (x := x4) kc_36_41 rfl rfl ?_
        obtain ⟨y16, A16, hy16, ry16⟩ := xk_arr K.1 xD_135
        obtain ⟨v17, ev17, bv17, dv17⟩ := xj_get hy16 ry16 (i := x4) (by omega) (by omega)
        refine xi_iaload (pc' := 44) (v := v17) kc_36_43 rfl A16 (by decide) rfl (xi_in (by omega) (by rw [hy16]; omega)) ev17 ?_
        refine xi_iconst (pc' := 45) (v := 3) kc_36_44 rfl rfl ?_
        by_cases c18 : 3 ≤ v17.toInt
        · refine xi_cmt (pc' := 148) kc_36_45 rfl (xc_ge_t (X := v17.toInt) (Y := 3) rfl (by decide) (by omega)) ?_
          obtain ⟨v19, ev19⟩ : ∃ q : Int32, x4 + 1 = q := ⟨_, rfl⟩
          have zv19 : v19.toInt = (x4.toInt + 1) := by rw [← ev19]; exact (xz_add (X := x4.toInt) (Y := 1) rfl (by decide) (by omega) (by omega)).trans (by omega)
          refine xi_iinc (pc' := 151) (x := x4) (v := v19) (lv' := [(4, .int v19), (0, .ref 115), (1, .int x1), (2, .int x2), (3, .int x3)]) kc_36_148 rfl rfl ev19 rfl (xm_lt ml_36 rfl) ?_
          refine xi_goto (pc' := 28) kc_36_151 rfl ?_
          refine xw_lv (b := [(0, .ref 115), (1, .int x1), (2, .int x2), (3, .int x3), (4, .int v19)]) (lvS_cons (lvS_cons (lvS_cons (lvS_cons (lvS_cons (lvS_nil (show ([4, 0, 1, 2, 3] : List Nat).Nodup by decide)) rfl) rfl) rfl) rfl) rfl) ?_
          exact i1 x1 x2 x3 v19 h (by omega) (by omega) (by omega) (by omega) K (by omega)
        · refine xi_cmf (pc' := 48) kc_36_45 rfl (xc_ge_f (X := v17.toInt) (Y := 3) rfl (by decide) (by omega)) ?_
          refine xi_aload_n (pc' := 49) (x := 115) kc_36_48 rfl rfl ?_
          refine xi_iload (pc' := 51) (x := x4) kc_36_49 rfl rfl ?_
          refine xi_iload_n (pc' := 52) (x := x1) kc_36_51 rfl rfl ?_
          refine xi_iload_n (pc' := 53) (x := x2) kc_36_52 rfl rfl ?_
          refine xi_iload_n (pc' := 54) (x := x3) kc_36_53 rfl rfl ?_
          refine xi_virtual (mj := 38) (as := [.int x4, .int x1, .int x2, .int x3]) (st1 := []) (lv0 := [(0, .ref 115), (1, .int x4), (2, .int x1), (3, .int x2), (4, .int x3)]) kc_36_54 rfl rfl rfl rfl rfl A14 (Nat.le_of_ble_eq_true rfl) (hJ _ _ _ _ (by decide)) (xm_le ml_38 rfl) rfl ?_
          refine mt_38_0 hJ hov1 hov2 (d := d + 2) (x1 := x4) (x2 := x1) (x3 := x2) (x4 := x3) K.1 (by first | omega | decide) (by first | omega | decide) (by first | omega | decide) (by first | omega | decide) (fun r20 hh21 br20 K22 => ?_)
          have K23 := xk_tr K K22 (xsb_ok _ _ (by decide +kernel))
          obtain ⟨u24, u25, u26, u27, u28, u29, u30, u31, u32, u33, u34, u35, u36, bu24, bu25, bu26, bu27, bu28, bu29, bu30, bu31, bu32, bu33, bu34, bu35, bu36, A37⟩ := xq_115 K23.1
          have e38 : u2 = u25 := xk_eqi (q := 1) K22 (by decide +kernel) A14 A37 rfl rfl
          subst e38
          have e39 : u5 = u28 := xk_eqi (q := 23) K22 (by decide +kernel) A14 A37 rfl rfl
          subst e39
          have e40 : u8 = u31 := xk_eqi (q := 34) K22 (by decide +kernel) A14 A37 rfl rfl
          subst e40
          have e41 : u6 = u29 := xk_eqi (q := 32) K22 (by decide +kernel) A14 A37 rfl rfl
          subst e41
          have A42 := xk_eqa (q := 0) K22 (by decide +kernel) A16
          show xw J ov (d + 4) 36 (57, [(0, .ref 115), (1, .int x1), (2, .int x2), (3, .int x3), (4, .int x4)], [.int r20], hh21) _
          by_cases c43 : r20.toInt = 0
          · refine xi_ift (pc' := 148) kc_36_57 rfl (xc_eq_t (X := r20.toInt) (Y := 0) rfl (by decide) (by omega)) ?_
            obtain ⟨v44, ev44⟩ : ∃ q : Int32, x4 + 1 = q := ⟨_, rfl⟩
            have zv44 : v44.toInt = (x4.toInt + 1) := by rw [← ev44]; exact (xz_add (X := x4.toInt) (Y := 1) rfl (by decide) (by omega) (by omega)).trans (by omega)
            refine xi_iinc (pc' := 151) (x := x4) (v := v44) (lv' := [(4, .int v44), (0, .ref 115), (1, .int x1), (2, .int x2), (3, .int x3)]) kc_36_148 rfl rfl ev44 rfl (xm_lt ml_36 rfl) ?_
            refine xi_goto (pc' := 28) kc_36_151 rfl ?_
            refine xw_lv (b := [(0, .ref 115), (1, .int x1), (2, .int x2), (3, .int x3), (4, .int v44)]) (lvS_cons (lvS_cons (lvS_cons (lvS_cons (lvS_cons (lvS_nil (show ([4, 0, 1, 2, 3] : List Nat).Nodup by decide)) rfl) rfl) rfl) rfl) rfl) ?_
            exact i1 x1 x2 x3 v44 hh21 (by omega) (by omega) (by omega) (by omega) K23 (by omega)
          · refine xi_iff (pc' := 60) kc_36_57 rfl (xc_eq_f (X := r20.toInt) (Y := 0) rfl (by decide) (by omega)) ?_
            refine xi_aload_n (pc' := 61) (x := 115) kc_36_60 rfl rfl ?_
            refine xi_getfield (pc' := 64) (v := .ref 135) kc_36_61 rfl rfl rfl A37 rfl ?_
            refine xi_iload (pc' := 66) (x := x4) kc_36_64 rfl rfl ?_
            refine xi_iaload (pc' := 67) (v := v17) kc_36_66 rfl A42 (by decide) rfl (xi_in (by omega) (by rw [hy16]; omega)) ev17 ?_
            by_cases c45 : v17.toInt = 0
            · refine xi_iff (pc' := 70) kc_36_67 rfl (xc_ne_f (X := v17.toInt) (Y := 0) rfl (by decide) (by omega)) ?_
              refine xi_aload_n (pc' := 71) (x := 115) kc_36_70 rfl rfl ?_
              refine xi_getfield (pc' := 74) (v := .ref 137) kc_36_71 rfl rfl rfl A37 rfl ?_
              refine xi_iload (pc' := 76) (x := x4) kc_36_74 rfl rfl ?_
              obtain ⟨y46, A46, hy46, ry46⟩ := xk_arr K23.1 xD_137
              obtain ⟨v47, ev47, bv47, dv47⟩ := xj_get hy46 ry46 (i := x4) (by omega) (by omega)
              refine xi_iaload (pc' := 77) (v := v47) kc_36_76 rfl A46 (by decide) rfl (xi_in (by omega) (by rw [hy46]; omega)) ev47 ?_
              refine xi_aload_n (pc' := 78) (x := 115) kc_36_77 rfl rfl ?_
              refine xi_getfield (pc' := 81) (v := .int u30) kc_36_78 rfl rfl rfl A37 rfl ?_
              obtain ⟨v48, ev48⟩ : ∃ q : Int32, (v47 : Int32) * u30 = q := ⟨_, rfl⟩
              have rv48 := xc_rng v48
              refine xi_imul (pc' := 82) (v := v48) kc_36_81 rfl ev48 ?_
              refine xi_goto (pc' := 116) kc_36_82 rfl ?_
              refine xi_istore (pc' := 118) (lv' := [(5, .int v48), (0, .ref 115), (1, .int x1), (2, .int x2), (3, .int x3), (4, .int x4)]) kc_36_116 rfl rfl (xm_lt ml_36 rfl) ?_
              refine xi_aload_n (pc' := 119) (x := 115) kc_36_118 rfl rfl ?_
              refine xi_getfield (pc' := 122) (v := .ref 142) kc_36_119 rfl rfl rfl A37 rfl ?_
              refine xi_aload_n (pc' := 123) (x := 115) kc_36_122 rfl rfl ?_
              refine xi_getfield (pc' := 126) (v := .ref 136) kc_36_123 rfl rfl rfl A37 rfl ?_
              refine xi_iload (pc' := 128) (x := x4) kc_36_126 rfl rfl ?_
              obtain ⟨y49, A49, hy49, ry49⟩ := xk_arr K23.1 xD_136
              obtain ⟨v50, ev50, bv50, dv50⟩ := xj_get hy49 ry49 (i := x4) (by omega) (by omega)
              refine xi_iaload (pc' := 129) (v := v50) kc_36_128 rfl A49 (by decide) rfl (xi_in (by omega) (by rw [hy49]; omega)) ev50 ?_
              refine xi_aload_n (pc' := 130) (x := 115) kc_36_129 rfl rfl ?_
              refine xi_getfield (pc' := 133) (v := .ref 142) kc_36_130 rfl rfl rfl A37 rfl ?_
              refine xi_aload_n (pc' := 134) (x := 115) kc_36_133 rfl rfl ?_
              refine xi_getfield (pc' := 137) (v := .ref 136) kc_36_134 rfl rfl rfl A37 rfl ?_
              refine xi_iload (pc' := 139) (x := x4) kc_36_137 rfl rfl ?_
              refine xi_iaload (pc' := 140) (v := v50) kc_36_139 rfl A49 (by decide) rfl (xi_in (by omega) (by rw [hy49]; omega)) ev50 ?_
              obtain ⟨y51, A51, hy51, ry51⟩ := xk_arr K23.1 xD_142
              obtain ⟨v52, ev52, bv52, dv52⟩ := xj_get hy51 ry51 (i := v50) (by omega) (by omega)
              refine xi_iaload (pc' := 141) (v := v52) kc_36_140 rfl A51 (by decide) rfl (xi_in (by omega) (by rw [hy51]; omega)) ev52 ?_
              refine xi_iload (pc' := 143) (x := v48) kc_36_141 rfl rfl ?_
              obtain ⟨v53, ev53⟩ : ∃ q : Int32, (v52 : Int32) + v48 = q := ⟨_, rfl⟩
              have rv53 := xc_rng v53
              refine xi_iadd (pc' := 144) (v := v53) kc_36_143 rfl ev53 ?_
              refine xi_static (mj := 39) (as := [.int v53]) (st1 := [.int v50, .ref 142]) (lv0 := [(0, .int v53)]) kc_36_144 rfl rfl (Nat.le_of_ble_eq_true rfl) rfl rfl (Nat.le_of_ble_eq_true rfl) (hJ _ _ _ _ (by decide)) (xm_le ml_39 rfl) rfl ?_
              refine mt_39_0 hJ hov1 hov2 (d := d + 2) (x0 := v53) K23.1 (fun r54 hh55 br54 K56 => ?_)
              have K57 := xk_tr K23 K56 (xsb_ok _ _ (by decide +kernel))
              obtain ⟨u58, u59, u60, u61, u62, u63, u64, u65, u66, u67, u68, u69, u70, bu58, bu59, bu60, bu61, bu62, bu63, bu64, bu65, bu66, bu67, bu68, bu69, bu70, A71⟩ := xq_115 K57.1
              have e72 : u2 = u59 := xk_eqi (q := 1) K56 (by decide +kernel) A37 A71 rfl rfl
              subst e72
              have e73 : u5 = u62 := xk_eqi (q := 23) K56 (by decide +kernel) A37 A71 rfl rfl
              subst e73
              have e74 : u8 = u65 := xk_eqi (q := 34) K56 (by decide +kernel) A37 A71 rfl rfl
              subst e74
              have e75 : u6 = u63 := xk_eqi (q := 32) K56 (by decide +kernel) A37 A71 rfl rfl
              subst e75
              have A76 := xk_eqa (q := 0) K56 (by decide +kernel) A42
              have A77 := xk_eqa (q := 0) K56 (by decide +kernel) A46
              have A78 := xk_eqa (q := 0) K56 (by decide +kernel) A49
              show xw J ov (d + 4) 36 (147, [(5, .int v48), (0, .ref 115), (1, .int x1), (2, .int x2), (3, .int x3), (4, .int x4)], [.int r54, .int v50, .ref 142], hh55) _
              obtain ⟨y79, A79, hy79, ry79⟩ := xk_arr K57.1 xD_142
              obtain ⟨y80, s80, hy80, ry80⟩ := xj_set (v := r54) hy79 ry79 v50 (by first | omega | decide) (by first | omega | decide)
              refine xi_iastore (pc' := 148) (x' := y80) kc_36_147 rfl A79 rfl (xi_in (by omega) (by rw [hy79]; omega)) s80 (fun hh80 eh80 => ?_)
              have K81 := xk_pa K57 (xk_wa (by decide +kernel)) xD_142 hy80 ry80 eh80
              obtain ⟨v82, ev82⟩ : ∃ q : Int32, x4 + 1 = q := ⟨_, rfl⟩
              have zv82 : v82.toInt = (x4.toInt + 1) := by rw [← ev82]; exact (xz_add (X := x4.toInt) (Y := 1) rfl (by decide) (by omega) (by omega)).trans (by omega)
              refine xi_iinc (pc' := 151) (x := x4) (v := v82) (lv' := [(4, .int v82), (5, .int v48), (0, .ref 115), (1, .int x1), (2, .int x2), (3, .int x3)]) kc_36_148 rfl rfl ev82 rfl (xm_lt ml_36 rfl) ?_
              refine xi_goto (pc' := 28) kc_36_151 rfl ?_
              refine xw_lv (b := [(0, .ref 115), (1, .int x1), (2, .int x2), (3, .int x3), (4, .int v82)]) (lvS_cons (lvS_cons (lvS_cons (lvS_cons (lvS_cons (lvS_nil (show ([4, 5, 0, 1, 2, 3] : List Nat).Nodup by decide)) rfl) rfl) rfl) rfl) rfl) ?_
              exact i1 x1 x2 x3 v82 hh80 (by omega) (by omega) (by omega) (by omega) K81 (by omega)
            · refine xi_ift (pc' := 85) kc_36_67 rfl (xc_ne_t (X := v17.toInt) (Y := 0) rfl (by decide) (by omega)) ?_
              refine xi_aload_n (pc' := 86) (x := 115) kc_36_85 rfl rfl ?_
              refine xi_getfield (pc' := 89) (v := .ref 135) kc_36_86 rfl rfl rfl A37 rfl ?_
              refine xi_iload (pc' := 91) (x := x4) kc_36_89 rfl rfl ?_
              refine xi_iaload (pc' := 92) (v := v17) kc_36_91 rfl A42 (by decide) rfl (xi_in (by omega) (by rw [hy16]; omega)) ev17 ?_
              refine xi_iconst (pc' := 93) (v := 1) kc_36_92 rfl rfl ?_
              by_cases c83 : v17.toInt = 1
              · refine xi_cmt (pc' := 105) kc_36_93 rfl (xc_eq_t (X := v17.toInt) (Y := 1) rfl (by decide) (by omega)) ?_
                refine xi_aload_n (pc' := 106) (x := 115) kc_36_105 rfl rfl ?_
                refine xi_getfield (pc' := 109) (v := .ref 137) kc_36_106 rfl rfl rfl A37 rfl ?_
                refine xi_iload (pc' := 111) (x := x4) kc_36_109 rfl rfl ?_
                obtain ⟨y84, A84, hy84, ry84⟩ := xk_arr K23.1 xD_137
                obtain ⟨v85, ev85, bv85, dv85⟩ := xj_get hy84 ry84 (i := x4) (by omega) (by omega)
                refine xi_iaload (pc' := 112) (v := v85) kc_36_111 rfl A84 (by decide) rfl (xi_in (by omega) (by rw [hy84]; omega)) ev85 ?_
                refine xi_goto (pc' := 116) kc_36_112 rfl ?_
                refine xi_istore (pc' := 118) (lv' := [(5, .int v85), (0, .ref 115), (1, .int x1), (2, .int x2), (3, .int x3), (4, .int x4)]) kc_36_116 rfl rfl (xm_lt ml_36 rfl) ?_
                refine xi_aload_n (pc' := 119) (x := 115) kc_36_118 rfl rfl ?_
                refine xi_getfield (pc' := 122) (v := .ref 142) kc_36_119 rfl rfl rfl A37 rfl ?_
                refine xi_aload_n (pc' := 123) (x := 115) kc_36_122 rfl rfl ?_
                refine xi_getfield (pc' := 126) (v := .ref 136) kc_36_123 rfl rfl rfl A37 rfl ?_
                refine xi_iload (pc' := 128) (x := x4) kc_36_126 rfl rfl ?_
                obtain ⟨y86, A86, hy86, ry86⟩ := xk_arr K23.1 xD_136
                obtain ⟨v87, ev87, bv87, dv87⟩ := xj_get hy86 ry86 (i := x4) (by omega) (by omega)
                refine xi_iaload (pc' := 129) (v := v87) kc_36_128 rfl A86 (by decide) rfl (xi_in (by omega) (by rw [hy86]; omega)) ev87 ?_
                refine xi_aload_n (pc' := 130) (x := 115) kc_36_129 rfl rfl ?_
                refine xi_getfield (pc' := 133) (v := .ref 142) kc_36_130 rfl rfl rfl A37 rfl ?_
                refine xi_aload_n (pc' := 134) (x := 115) kc_36_133 rfl rfl ?_
                refine xi_getfield (pc' := 137) (v := .ref 136) kc_36_134 rfl rfl rfl A37 rfl ?_
                refine xi_iload (pc' := 139) (x := x4) kc_36_137 rfl rfl ?_
                refine xi_iaload (pc' := 140) (v := v87) kc_36_139 rfl A86 (by decide) rfl (xi_in (by omega) (by rw [hy86]; omega)) ev87 ?_
                obtain ⟨y88, A88, hy88, ry88⟩ := xk_arr K23.1 xD_142
                obtain ⟨v89, ev89, bv89, dv89⟩ := xj_get hy88 ry88 (i := v87) (by omega) (by omega)
                refine xi_iaload (pc' := 141) (v := v89) kc_36_140 rfl A88 (by decide) rfl (xi_in (by omega) (by rw [hy88]; omega)) ev89 ?_
                refine xi_iload (pc' := 143) (x := v85) kc_36_141 rfl rfl ?_
                obtain ⟨v90, ev90⟩ : ∃ q : Int32, (v89 : Int32) + v85 = q := ⟨_, rfl⟩
                have rv90 := xc_rng v90
                refine xi_iadd (pc' := 144) (v := v90) kc_36_143 rfl ev90 ?_
                refine xi_static (mj := 39) (as := [.int v90]) (st1 := [.int v87, .ref 142]) (lv0 := [(0, .int v90)]) kc_36_144 rfl rfl (Nat.le_of_ble_eq_true rfl) rfl rfl (Nat.le_of_ble_eq_true rfl) (hJ _ _ _ _ (by decide)) (xm_le ml_39 rfl) rfl ?_
                refine mt_39_0 hJ hov1 hov2 (d := d + 2) (x0 := v90) K23.1 (fun r91 hh92 br91 K93 => ?_)
                have K94 := xk_tr K23 K93 (xsb_ok _ _ (by decide +kernel))
                obtain ⟨u95, u96, u97, u98, u99, u100, u101, u102, u103, u104, u105, u106, u107, bu95, bu96, bu97, bu98, bu99, bu100, bu101, bu102, bu103, bu104, bu105, bu106, bu107, A108⟩ := xq_115 K94.1
                have e109 : u2 = u96 := xk_eqi (q := 1) K93 (by decide +kernel) A37 A108 rfl rfl
                subst e109
                have e110 : u5 = u99 := xk_eqi (q := 23) K93 (by decide +kernel) A37 A108 rfl rfl
                subst e110
                have e111 : u8 = u102 := xk_eqi (q := 34) K93 (by decide +kernel) A37 A108 rfl rfl
                subst e111
                have e112 : u6 = u100 := xk_eqi (q := 32) K93 (by decide +kernel) A37 A108 rfl rfl
                subst e112
                have A113 := xk_eqa (q := 0) K93 (by decide +kernel) A42
                have A114 := xk_eqa (q := 0) K93 (by decide +kernel) A84
                have A115 := xk_eqa (q := 0) K93 (by decide +kernel) A86
                show xw J ov (d + 4) 36 (147, [(5, .int v85), (0, .ref 115), (1, .int x1), (2, .int x2), (3, .int x3), (4, .int x4)], [.int r91, .int v87, .ref 142], hh92) _
                obtain ⟨y116, A116, hy116, ry116⟩ := xk_arr K94.1 xD_142
                obtain ⟨y117, s117, hy117, ry117⟩ := xj_set (v := r91) hy116 ry116 v87 (by first | omega | decide) (by first | omega | decide)
                refine xi_iastore (pc' := 148) (x' := y117) kc_36_147 rfl A116 rfl (xi_in (by omega) (by rw [hy116]; omega)) s117 (fun hh117 eh117 => ?_)
                have K118 := xk_pa K94 (xk_wa (by decide +kernel)) xD_142 hy117 ry117 eh117
                obtain ⟨v119, ev119⟩ : ∃ q : Int32, x4 + 1 = q := ⟨_, rfl⟩
                have zv119 : v119.toInt = (x4.toInt + 1) := by rw [← ev119]; exact (xz_add (X := x4.toInt) (Y := 1) rfl (by decide) (by omega) (by omega)).trans (by omega)
                refine xi_iinc (pc' := 151) (x := x4) (v := v119) (lv' := [(4, .int v119), (5, .int v85), (0, .ref 115), (1, .int x1), (2, .int x2), (3, .int x3)]) kc_36_148 rfl rfl ev119 rfl (xm_lt ml_36 rfl) ?_
                refine xi_goto (pc' := 28) kc_36_151 rfl ?_
                refine xw_lv (b := [(0, .ref 115), (1, .int x1), (2, .int x2), (3, .int x3), (4, .int v119)]) (lvS_cons (lvS_cons (lvS_cons (lvS_cons (lvS_cons (lvS_nil (show ([4, 5, 0, 1, 2, 3] : List Nat).Nodup by decide)) rfl) rfl) rfl) rfl) rfl) ?_
                exact i1 x1 x2 x3 v119 hh117 (by omega) (by omega) (by omega) (by omega) K118 (by omega)
              · refine xi_cmf (pc' := 96) kc_36_93 rfl (xc_eq_f (X := v17.toInt) (Y := 1) rfl (by decide) (by omega)) ?_
                refine xi_iload_n (pc' := 97) (x := x3) kc_36_96 rfl rfl ?_
                refine xi_bipush (pc' := 99) (v := 24) kc_36_97 rfl rfl ?_
                obtain ⟨v120, ev120⟩ : ∃ q : Int32, x3 - x3 / 24 * 24 = q := ⟨_, rfl⟩
                have dv120 : v120.toInt = x3.toInt % 24 := by rw [← ev120]; exact xz_reme (X := x3.toInt) (Y := 24) rfl (by decide) (by omega) (by decide)
                have bv120 : 0 ≤ v120.toInt ∧ v120.toInt ≤ 23 := by omega
                refine xi_irem (pc' := 100) (v := v120) kc_36_99 rfl ev120 (by decide) ?_
                refine xi_bipush (pc' := 102) (v := 6) kc_36_100 rfl rfl ?_
                by_cases c121 : 6 ≤ v120.toInt
                · refine xi_cmt (pc' := 115) kc_36_102 rfl (xc_ge_t (X := v120.toInt) (Y := 6) rfl (by decide) (by omega)) ?_
                  refine xi_iconst (pc' := 116) (v := 0) kc_36_115 rfl rfl ?_
                  refine xi_istore (pc' := 118) (lv' := [(5, .int 0), (0, .ref 115), (1, .int x1), (2, .int x2), (3, .int x3), (4, .int x4)]) kc_36_116 rfl rfl (xm_lt ml_36 rfl) ?_
                  refine xi_aload_n (pc' := 119) (x := 115) kc_36_118 rfl rfl ?_
                  refine xi_getfield (pc' := 122) (v := .ref 142) kc_36_119 rfl rfl rfl A37 rfl ?_
                  refine xi_aload_n (pc' := 123) (x := 115) kc_36_122 rfl rfl ?_
                  refine xi_getfield (pc' := 126) (v := .ref 136) kc_36_123 rfl rfl rfl A37 rfl ?_
                  refine xi_iload (pc' := 128) (x := x4) kc_36_126 rfl rfl ?_
                  obtain ⟨y122, A122, hy122, ry122⟩ := xk_arr K23.1 xD_136
                  obtain ⟨v123, ev123, bv123, dv123⟩ := xj_get hy122 ry122 (i := x4) (by omega) (by omega)
                  refine xi_iaload (pc' := 129) (v := v123) kc_36_128 rfl A122 (by decide) rfl (xi_in (by omega) (by rw [hy122]; omega)) ev123 ?_
                  refine xi_aload_n (pc' := 130) (x := 115) kc_36_129 rfl rfl ?_
                  refine xi_getfield (pc' := 133) (v := .ref 142) kc_36_130 rfl rfl rfl A37 rfl ?_
                  refine xi_aload_n (pc' := 134) (x := 115) kc_36_133 rfl rfl ?_
                  refine xi_getfield (pc' := 137) (v := .ref 136) kc_36_134 rfl rfl rfl A37 rfl ?_
                  refine xi_iload (pc' := 139) (x := x4) kc_36_137 rfl rfl ?_
                  refine xi_iaload (pc' := 140) (v := v123) kc_36_139 rfl A122 (by decide) rfl (xi_in (by omega) (by rw [hy122]; omega)) ev123 ?_
                  obtain ⟨y124, A124, hy124, ry124⟩ := xk_arr K23.1 xD_142
                  obtain ⟨v125, ev125, bv125, dv125⟩ := xj_get hy124 ry124 (i := v123) (by omega) (by omega)
                  refine xi_iaload (pc' := 141) (v := v125) kc_36_140 rfl A124 (by decide) rfl (xi_in (by omega) (by rw [hy124]; omega)) ev125 ?_
                  refine xi_iload (pc' := 143) (x := 0) kc_36_141 rfl rfl ?_
                  obtain ⟨v126, ev126⟩ : ∃ q : Int32, v125 + 0 = q := ⟨_, rfl⟩
                  have zv126 : v126.toInt = v125.toInt := by rw [← ev126]; exact (xz_add (X := v125.toInt) (Y := 0) rfl (by decide) (by omega) (by omega)).trans (by omega)
                  refine xi_iadd (pc' := 144) (v := v126) kc_36_143 rfl ev126 ?_
                  refine xi_static (mj := 39) (as := [.int v126]) (st1 := [.int v123, .ref 142]) (lv0 := [(0, .int v126)]) kc_36_144 rfl rfl (Nat.le_of_ble_eq_true rfl) rfl rfl (Nat.le_of_ble_eq_true rfl) (hJ _ _ _ _ (by decide)) (xm_le ml_39 rfl) rfl ?_
                  refine mt_39_0 hJ hov1 hov2 (d := d + 2) (x0 := v126) K23.1 (fun r127 hh128 br127 K129 => ?_)
                  have K130 := xk_tr K23 K129 (xsb_ok _ _ (by decide +kernel))
                  obtain ⟨u131, u132, u133, u134, u135, u136, u137, u138, u139, u140, u141, u142, u143, bu131, bu132, bu133, bu134, bu135, bu136, bu137, bu138, bu139, bu140, bu141, bu142, bu143, A144⟩ := xq_115 K130.1
                  have e145 : u2 = u132 := xk_eqi (q := 1) K129 (by decide +kernel) A37 A144 rfl rfl
                  subst e145
                  have e146 : u5 = u135 := xk_eqi (q := 23) K129 (by decide +kernel) A37 A144 rfl rfl
                  subst e146
                  have e147 : u8 = u138 := xk_eqi (q := 34) K129 (by decide +kernel) A37 A144 rfl rfl
                  subst e147
                  have e148 : u6 = u136 := xk_eqi (q := 32) K129 (by decide +kernel) A37 A144 rfl rfl
                  subst e148
                  have A149 := xk_eqa (q := 0) K129 (by decide +kernel) A42
                  have A150 := xk_eqa (q := 0) K129 (by decide +kernel) A122
                  show xw J ov (d + 4) 36 (147, [(5, .int 0), (0, .ref 115), (1, .int x1), (2, .int x2), (3, .int x3), (4, .int x4)], [.int r127, .int v123, .ref 142], hh128) _
                  obtain ⟨y151, A151, hy151, ry151⟩ := xk_arr K130.1 xD_142
                  obtain ⟨y152, s152, hy152, ry152⟩ := xj_set (v := r127) hy151 ry151 v123 (by first | omega | decide) (by first | omega | decide)
                  refine xi_iastore (pc' := 148) (x' := y152) kc_36_147 rfl A151 rfl (xi_in (by omega) (by rw [hy151]; omega)) s152 (fun hh152 eh152 => ?_)
                  have K153 := xk_pa K130 (xk_wa (by decide +kernel)) xD_142 hy152 ry152 eh152
                  obtain ⟨v154, ev154⟩ : ∃ q : Int32, x4 + 1 = q := ⟨_, rfl⟩
                  have zv154 : v154.toInt = (x4.toInt + 1) := by rw [← ev154]; exact (xz_add (X := x4.toInt) (Y := 1) rfl (by decide) (by omega) (by omega)).trans (by omega)
                  refine xi_iinc (pc' := 151) (x := x4) (v := v154) (lv' := [(4, .int v154), (5, .int 0), (0, .ref 115), (1, .int x1), (2, .int x2), (3, .int x3)]) kc_36_148 rfl rfl ev154 rfl (xm_lt ml_36 rfl) ?_
                  refine xi_goto (pc' := 28) kc_36_151 rfl ?_
                  refine xw_lv (b := [(0, .ref 115), (1, .int x1), (2, .int x2), (3, .int x3), (4, .int v154)]) (lvS_cons (lvS_cons (lvS_cons (lvS_cons (lvS_cons (lvS_nil (show ([4, 5, 0, 1, 2, 3] : List Nat).Nodup by decide)) rfl) rfl) rfl) rfl) rfl) ?_
                  exact i1 x1 x2 x3 v154 hh152 (by omega) (by omega) (by omega) (by omega) K153 (by omega)
                · refine xi_cmf (pc' := 105) kc_36_102 rfl (xc_ge_f (X := v120.toInt) (Y := 6) rfl (by decide) (by omega)) ?_
                  refine xi_aload_n (pc' := 106) (x := 115) kc_36_105 rfl rfl ?_
                  refine xi_getfield (pc' := 109) (v := .ref 137) kc_36_106 rfl rfl rfl A37 rfl ?_
                  refine xi_iload (pc' := 111) (x := x4) kc_36_109 rfl rfl ?_
                  obtain ⟨y155, A155, hy155, ry155⟩ := xk_arr K23.1 xD_137
                  obtain ⟨v156, ev156, bv156, dv156⟩ := xj_get hy155 ry155 (i := x4) (by omega) (by omega)
                  refine xi_iaload (pc' := 112) (v := v156) kc_36_111 rfl A155 (by decide) rfl (xi_in (by omega) (by rw [hy155]; omega)) ev156 ?_
                  refine xi_goto (pc' := 116) kc_36_112 rfl ?_
                  refine xi_istore (pc' := 118) (lv' := [(5, .int v156), (0, .ref 115), (1, .int x1), (2, .int x2), (3, .int x3), (4, .int x4)]) kc_36_116 rfl rfl (xm_lt ml_36 rfl) ?_
                  refine xi_aload_n (pc' := 119) (x := 115) kc_36_118 rfl rfl ?_
                  refine xi_getfield (pc' := 122) (v := .ref 142) kc_36_119 rfl rfl rfl A37 rfl ?_
                  refine xi_aload_n (pc' := 123) (x := 115) kc_36_122 rfl rfl ?_
                  refine xi_getfield (pc' := 126) (v := .ref 136) kc_36_123 rfl rfl rfl A37 rfl ?_
                  refine xi_iload (pc' := 128) (x := x4) kc_36_126 rfl rfl ?_
                  obtain ⟨y157, A157, hy157, ry157⟩ := xk_arr K23.1 xD_136
                  obtain ⟨v158, ev158, bv158, dv158⟩ := xj_get hy157 ry157 (i := x4) (by omega) (by omega)
                  refine xi_iaload (pc' := 129) (v := v158) kc_36_128 rfl A157 (by decide) rfl (xi_in (by omega) (by rw [hy157]; omega)) ev158 ?_
                  refine xi_aload_n (pc' := 130) (x := 115) kc_36_129 rfl rfl ?_
                  refine xi_getfield (pc' := 133) (v := .ref 142) kc_36_130 rfl rfl rfl A37 rfl ?_
                  refine xi_aload_n (pc' := 134) (x := 115) kc_36_133 rfl rfl ?_
                  refine xi_getfield (pc' := 137) (v := .ref 136) kc_36_134 rfl rfl rfl A37 rfl ?_
                  refine xi_iload (pc' := 139) (x := x4) kc_36_137 rfl rfl ?_
                  refine xi_iaload (pc' := 140) (v := v158) kc_36_139 rfl A157 (by decide) rfl (xi_in (by omega) (by rw [hy157]; omega)) ev158 ?_
                  obtain ⟨y159, A159, hy159, ry159⟩ := xk_arr K23.1 xD_142
                  obtain ⟨v160, ev160, bv160, dv160⟩ := xj_get hy159 ry159 (i := v158) (by omega) (by omega)
                  refine xi_iaload (pc' := 141) (v := v160) kc_36_140 rfl A159 (by decide) rfl (xi_in (by omega) (by rw [hy159]; omega)) ev160 ?_
                  refine xi_iload (pc' := 143) (x := v156) kc_36_141 rfl rfl ?_
                  obtain ⟨v161, ev161⟩ : ∃ q : Int32, (v160 : Int32) + v156 = q := ⟨_, rfl⟩
                  have rv161 := xc_rng v161
                  refine xi_iadd (pc' := 144) (v := v161) kc_36_143 rfl ev161 ?_
                  refine xi_static (mj := 39) (as := [.int v161]) (st1 := [.int v158, .ref 142]) (lv0 := [(0, .int v161)]) kc_36_144 rfl rfl (Nat.le_of_ble_eq_true rfl) rfl rfl (Nat.le_of_ble_eq_true rfl) (hJ _ _ _ _ (by decide)) (xm_le ml_39 rfl) rfl ?_
                  refine mt_39_0 hJ hov1 hov2 (d := d + 2) (x0 := v161) K23.1 (fun r162 hh163 br162 K164 => ?_)
                  have K165 := xk_tr K23 K164 (xsb_ok _ _ (by decide +kernel))
                  obtain ⟨u166, u167, u168, u169, u170, u171, u172, u173, u174, u175, u176, u177, u178, bu166, bu167, bu168, bu169, bu170, bu171, bu172, bu173, bu174, bu175, bu176, bu177, bu178, A179⟩ := xq_115 K165.1
                  have e180 : u2 = u167 := xk_eqi (q := 1) K164 (by decide +kernel) A37 A179 rfl rfl
                  subst e180
                  have e181 : u5 = u170 := xk_eqi (q := 23) K164 (by decide +kernel) A37 A179 rfl rfl
                  subst e181
                  have e182 : u8 = u173 := xk_eqi (q := 34) K164 (by decide +kernel) A37 A179 rfl rfl
                  subst e182
                  have e183 : u6 = u171 := xk_eqi (q := 32) K164 (by decide +kernel) A37 A179 rfl rfl
                  subst e183
                  have A184 := xk_eqa (q := 0) K164 (by decide +kernel) A42
                  have A185 := xk_eqa (q := 0) K164 (by decide +kernel) A155
                  have A186 := xk_eqa (q := 0) K164 (by decide +kernel) A157
                  show xw J ov (d + 4) 36 (147, [(5, .int v156), (0, .ref 115), (1, .int x1), (2, .int x2), (3, .int x3), (4, .int x4)], [.int r162, .int v158, .ref 142], hh163) _
                  obtain ⟨y187, A187, hy187, ry187⟩ := xk_arr K165.1 xD_142
                  obtain ⟨y188, s188, hy188, ry188⟩ := xj_set (v := r162) hy187 ry187 v158 (by first | omega | decide) (by first | omega | decide)
                  refine xi_iastore (pc' := 148) (x' := y188) kc_36_147 rfl A187 rfl (xi_in (by omega) (by rw [hy187]; omega)) s188 (fun hh188 eh188 => ?_)
                  have K189 := xk_pa K165 (xk_wa (by decide +kernel)) xD_142 hy188 ry188 eh188
                  obtain ⟨v190, ev190⟩ : ∃ q : Int32, x4 + 1 = q := ⟨_, rfl⟩
                  have zv190 : v190.toInt = (x4.toInt + 1) := by rw [← ev190]; exact (xz_add (X := x4.toInt) (Y := 1) rfl (by decide) (by omega) (by omega)).trans (by omega)
                  refine xi_iinc (pc' := 151) (x := x4) (v := v190) (lv' := [(4, .int v190), (5, .int v156), (0, .ref 115), (1, .int x1), (2, .int x2), (3, .int x3)]) kc_36_148 rfl rfl ev190 rfl (xm_lt ml_36 rfl) ?_
                  refine xi_goto (pc' := 28) kc_36_151 rfl ?_
                  refine xw_lv (b := [(0, .ref 115), (1, .int x1), (2, .int x2), (3, .int x3), (4, .int v190)]) (lvS_cons (lvS_cons (lvS_cons (lvS_cons (lvS_cons (lvS_nil (show ([4, 5, 0, 1, 2, 3] : List Nat).Nodup by decide)) rfl) rfl) rfl) rfl) rfl) ?_
                  exact i1 x1 x2 x3 v190 hh188 (by omega) (by omega) (by omega) (by omega) K189 (by omega)
    · intro x4 h b4 K hm
      refine xi_iload (pc' := 159) (x := x4) kc_36_157 rfl rfl ?_
      refine xi_bipush (pc' := 161) (v := 12) kc_36_159 rfl rfl ?_
      by_cases c1 : 12 ≤ x4.toInt
      · refine xi_cmt (pc' := 198) kc_36_161 rfl (xc_ge_t (X := x4.toInt) (Y := 12) rfl (by decide) (by omega)) ?_
        refine xi_return kc_36_198 mr_36 ?_
        exact kk h K
      · refine xi_cmf (pc' := 164) kc_36_161 rfl (xc_ge_f (X := x4.toInt) (Y := 12) rfl (by decide) (by omega)) ?_
        refine xi_aload_n (pc' := 165) (x := 115) kc_36_164 rfl rfl ?_
        obtain ⟨u2, u3, u4, u5, u6, u7, u8, u9, u10, u11, u12, u13, u14, bu2, bu3, bu4, bu5, bu6, bu7, bu8, bu9, bu10, bu11, bu12, bu13, bu14, A15⟩ := xq_115 K.1
        refine xi_getfield (pc' := 168) (v := .ref 142) kc_36_165 rfl rfl rfl A15 rfl ?_
        refine xi_iload (pc' := 170) (x := x4) kc_36_168 rfl rfl ?_
        refine xi_dup2 (pc' := 171) kc_36_170 rfl ⟨rfl, rfl⟩ ?_
        obtain ⟨y16, A16, hy16, ry16⟩ := xk_arr K.1 xD_142
        obtain ⟨v17, ev17, bv17, dv17⟩ := xj_get hy16 ry16 (i := x4) (by omega) (by omega)
        refine xi_iaload (pc' := 172) (v := v17) kc_36_171 rfl A16 (by decide) rfl (xi_in (by omega) (by rw [hy16]; omega)) ev17 ?_
        refine xi_aload_n (pc' := 173) (x := 115) kc_36_172 rfl rfl ?_
        refine xi_getfield (pc' := 176) (v := .ref 142) kc_36_173 rfl rfl rfl A15 rfl ?_
        refine xi_iload (pc' := 178) (x := x4) kc_36_176 rfl rfl ?_
        refine xi_iaload (pc' := 179) (v := v17) kc_36_178 rfl A16 (by decide) rfl (xi_in (by omega) (by rw [hy16]; omega)) ev17 ?_
        refine xi_aload_n (pc' := 180) (x := 115) kc_36_179 rfl rfl ?_
        refine xi_getfield (pc' := 183) (v := .int u4) kc_36_180 rfl rfl rfl A15 rfl ?_
        obtain ⟨v18, ev18⟩ : ∃ q : Int32, (v17 : Int32) * u4 = q := ⟨_, rfl⟩
        have rv18 := xc_rng v18
        refine xi_imul (pc' := 184) (v := v18) kc_36_183 rfl ev18 ?_
        refine xi_bipush (pc' := 186) (v := 99) kc_36_184 rfl rfl ?_
        obtain ⟨v19, ev19⟩ : ∃ q : Int32, (v18 : Int32) + 99 = q := ⟨_, rfl⟩
        have rv19 := xc_rng v19
        refine xi_iadd (pc' := 187) (v := v19) kc_36_186 rfl ev19 ?_
        refine xi_bipush (pc' := 189) (v := 100) kc_36_187 rfl rfl ?_
        obtain ⟨v20, ev20⟩ : ∃ q : Int32, v19 / 100 = q := ⟨_, rfl⟩
        have dv20 : 100 * v20.toInt ≤ v19.toInt + 99 ∧ v19.toInt ≤ 100 * v20.toInt + 99 := by rw [← ev20]; exact xz_div (X := v19.toInt) (Y := 100) rfl (by decide) (by decide)
        have bv20 : -21474837 ≤ v20.toInt ∧ v20.toInt ≤ 21474837 := by omega
        refine xi_idiv (pc' := 190) (v := v20) kc_36_189 rfl ev20 (by decide) ?_
        obtain ⟨v21, ev21⟩ : ∃ q : Int32, (v17 : Int32) - v20 = q := ⟨_, rfl⟩
        have rv21 := xc_rng v21
        refine xi_isub (pc' := 191) (v := v21) kc_36_190 rfl ev21 ?_
        obtain ⟨y22, s22, hy22, ry22⟩ := xj_set (v := v21) hy16 ry16 x4 (by first | omega | decide) (by first | omega | decide)
        refine xi_iastore (pc' := 192) (x' := y22) kc_36_191 rfl A16 rfl (xi_in (by omega) (by rw [hy16]; omega)) s22 (fun hh22 eh22 => ?_)
        have K23 := xk_pa K (xk_wa (by decide +kernel)) xD_142 hy22 ry22 eh22
        obtain ⟨v24, ev24⟩ : ∃ q : Int32, x4 + 1 = q := ⟨_, rfl⟩
        have zv24 : v24.toInt = (x4.toInt + 1) := by rw [← ev24]; exact (xz_add (X := x4.toInt) (Y := 1) rfl (by decide) (by omega) (by omega)).trans (by omega)
        refine xi_iinc (pc' := 195) (x := x4) (v := v24) (lv' := [(4, .int v24), (0, .ref 115)]) kc_36_192 rfl rfl ev24 rfl (xm_lt ml_36 rfl) ?_
        refine xi_goto (pc' := 157) kc_36_195 rfl ?_
        refine xw_lv (b := [(0, .ref 115), (4, .int v24)]) (lvS_cons (lvS_cons (lvS_nil (show ([4, 0] : List Nat).Nodup by decide)) rfl) rfl) ?_
        exact i2 v24 hh22 (by omega) K23 (by omega)
set_option maxHeartbeats 4000000 in
theorem mt_36_0 {J : xe_J} {ov : List (List Int32)} (hJ : ∀ d mj as h, mj ≠ xe_loff → J d mj as h = none) (hov1 : ov[1]? = some [10, 0, 0, 0, 0, 0]) (hov2 : ov[2]? = some [99, 30, 50, 50, 1, 99999]) {d : Nat} {Q : Option Value → xe_H → Prop} {h : xe_H} {x1 : Int32} {x2 : Int32} {x3 : Int32} (T : xt h) (b1 : (0 ≤ x1.toInt ∧ x1.toInt ≤ 63)) (b2 : (0 ≤ x2.toInt ∧ x2.toInt ≤ 1)) (b3 : (0 ≤ x3.toInt ∧ x3.toInt ≤ 599)) (kk : (∀ h' : xe_H, xk xP_15 h h' → Q none h')) : xw J ov (d + 4) 36 (0, [(0, .ref 115), (1, .int x1), (2, .int x2), (3, .int x3)], [], h) Q := by
  have K : xk xP_15 h h := xk_re T
  refine xi_iconst (pc' := 1) (v := 0) kc_36_0 rfl rfl ?_
  refine xi_istore (pc' := 3) (lv' := [(4, .int 0), (0, .ref 115), (1, .int x1), (2, .int x2), (3, .int x3)]) kc_36_1 rfl rfl (xm_lt ml_36 rfl) ?_
  have zc0 : (0 : Int32).toInt = 0 := by decide
  refine xw_lv (b := [(0, .ref 115), (1, .int x1), (2, .int x2), (3, .int x3), (4, .int 0)]) (lvS_cons (lvS_cons (lvS_cons (lvS_cons (lvS_cons (lvS_nil (show ([4, 0, 1, 2, 3] : List Nat).Nodup by decide)) rfl) rfl) rfl) rfl) rfl) ?_
  exact (lp_36_0 hJ hov1 hov2 (d := d) (hb := h) (fun h9 K9 => kk h9 (xk_tr K K9 (xsb_ok _ _ (by decide +kernel)))) 31).1 x1 x2 x3 0 h (by omega) (by omega) (by omega) (by omega) (xk_re K.1) (by omega)
set_option maxHeartbeats 4000000 in
theorem lp_35_0 {J : xe_J} {ov : List (List Int32)} (hJ : ∀ d mj as h, mj ≠ xe_loff → J d mj as h = none) (hov1 : ov[1]? = some [10, 0, 0, 0, 0, 0]) (hov2 : ov[2]? = some [99, 30, 50, 50, 1, 99999]) {d : Nat} {Q : Option Value → xe_H → Prop} {hb : xe_H} {u0 : Int32} (bgu0 : (0 ≤ u0.toInt ∧ u0.toInt ≤ 599)) (kk : (∀ h' : xe_H, (∀ v : Int32, xl h' (115, 1) = some (.inl (.int v)) → v.toInt + (-1) * u0.toInt + (-1) = 0) → xk xP_16 hb h' → Q none h')) : ∀ m : Nat, (∀ (x1 : Int32) (h : xe_H), (0 ≤ x1.toInt ∧ x1.toInt ≤ 20) → (∀ v : Int32, xl h (115, 1) = some (.inl (.int v)) → v.toInt + (-1) * u0.toInt + 0 = 0) → xk xP_16 hb h → (-1) * x1.toInt + 81 < (m : Int) → xw J ov (d + 5) 35 (2, [(0, .ref 115), (1, .int x1)], [], h) Q) ∧ (∀ (x1 : Int32) (h : xe_H), (0 ≤ x1.toInt ∧ x1.toInt ≤ 6) → (∀ v : Int32, xl h (115, 1) = some (.inl (.int v)) → v.toInt + (-1) * u0.toInt + 0 = 0) → xk xP_16 hb h → (-1) * x1.toInt + 60 < (m : Int) → xw J ov (d + 5) 35 (93, [(0, .ref 115), (1, .int x1)], [], h) Q) ∧ (∀ (x1 : Int32) (h : xe_H), (0 ≤ x1.toInt ∧ x1.toInt ≤ 12) → (∀ v : Int32, xl h (115, 1) = some (.inl (.int v)) → v.toInt + (-1) * u0.toInt + 0 = 0) → xk xP_16 hb h → (-1) * x1.toInt + 53 < (m : Int) → xw J ov (d + 5) 35 (119, [(0, .ref 115), (1, .int x1)], [], h) Q) ∧ (∀ (x1 : Int32) (h : xe_H), (0 ≤ x1.toInt ∧ x1.toInt ≤ 6) → (∀ v : Int32, xl h (115, 1) = some (.inl (.int v)) → v.toInt + (-1) * u0.toInt + 0 = 0) → xk xP_16 hb h → (-1) * x1.toInt + 40 < (m : Int) → xw J ov (d + 5) 35 (179, [(0, .ref 115), (1, .int x1)], [], h) Q) ∧ (∀ (x1 : Int32) (h : xe_H), (0 ≤ x1.toInt ∧ x1.toInt ≤ 12) → (∀ v : Int32, xl h (115, 1) = some (.inl (.int v)) → v.toInt + (-1) * u0.toInt + 0 = 0) → xk xP_16 hb h → (-1) * x1.toInt + 33 < (m : Int) → xw J ov (d + 5) 35 (205, [(0, .ref 115), (1, .int x1)], [], h) Q) ∧ (∀ (x1 : Int32) (h : xe_H), (0 ≤ x1.toInt ∧ x1.toInt ≤ 20) → (∀ v : Int32, xl h (115, 1) = some (.inl (.int v)) → v.toInt + (-1) * u0.toInt + (-1) = 0) → xk xP_16 hb h → (-1) * x1.toInt + 20 < (m : Int) → xw J ov (d + 5) 35 (286, [(0, .ref 115), (1, .int x1)], [], h) Q) := by
  intro m
  induction m with
  | zero =>
    refine ⟨?_, ?_, ?_, ?_, ?_, ?_⟩
    · intro x1 h b1 gh0 K hm; exfalso; omega
    · intro x1 h b1 gh0 K hm; exfalso; omega
    · intro x1 h b1 gh0 K hm; exfalso; omega
    · intro x1 h b1 gh0 K hm; exfalso; omega
    · intro x1 h b1 gh0 K hm; exfalso; omega
    · intro x1 h b1 gh0 K hm; exfalso; omega
  | succ m ih =>
    obtain ⟨i0, i1, i2, i3, i4, i5⟩ := ih
    refine ⟨?_, ?_, ?_, ?_, ?_, ?_⟩
    · intro x1 h b1 gh0 K hm
      obtain ⟨u1, u2, u3, u4, u5, u6, u7, u8, u9, u10, u11, u12, u13, bu1, bu2, bu3, bu4, bu5, bu6, bu7, bu8, bu9, bu10, bu11, bu12, bu13, A14⟩ := xq_115 K.1
      have gh0' := gh0 _ (xl_of A14 rfl)
      refine xi_iload_n (pc' := 3) (x := x1) kc_35_2 rfl rfl ?_
      refine xi_aload_n (pc' := 4) (x := 115) kc_35_3 rfl rfl ?_
      refine xi_getfield (pc' := 7) (v := .int u8) kc_35_4 rfl rfl rfl A14 rfl ?_
      by_cases c15 : u8.toInt ≤ x1.toInt
      · refine xi_cmt (pc' := 91) kc_35_7 rfl (xc_ge_t (X := x1.toInt) (Y := u8.toInt) rfl rfl (by omega)) ?_
        refine xi_iconst (pc' := 92) (v := 0) kc_35_91 rfl rfl ?_
        refine xi_istore_n (pc' := 93) (lv' := [(1, .int 0), (0, .ref 115)]) kc_35_92 rfl rfl (xm_lt ml_35 rfl) ?_
        have zc0 : (0 : Int32).toInt = 0 := by decide
        refine xw_lv (b := [(0, .ref 115), (1, .int 0)]) (lvS_cons (lvS_cons (lvS_nil (show ([1, 0] : List Nat).Nodup by decide)) rfl) rfl) ?_
        exact i1 0 h (by omega) (fun v e => by have e2 := xl_val (u := u2) A14 rfl e; subst e2; omega) K (by omega)
      · refine xi_cmf (pc' := 10) kc_35_7 rfl (xc_ge_f (X := x1.toInt) (Y := u8.toInt) rfl rfl (by omega)) ?_
        refine xi_aload_n (pc' := 11) (x := 115) kc_35_10 rfl rfl ?_
        refine xi_getfield (pc' := 14) (v := .ref 146) kc_35_11 rfl rfl rfl A14 rfl ?_
        refine xi_iload_n (pc' := 15) (x := x1) kc_35_14 rfl rfl ?_
        obtain ⟨y16, A16, hy16, ry16⟩ := xk_arr K.1 xD_146
        obtain ⟨v17, ev17, bv17, dv17⟩ := xj_get hy16 ry16 (i := x1) (by omega) (by omega)
        refine xi_iaload (pc' := 16) (v := v17) kc_35_15 rfl A16 (by decide) rfl (xi_in (by omega) (by rw [hy16]; omega)) ev17 ?_
        refine xi_aload_n (pc' := 17) (x := 115) kc_35_16 rfl rfl ?_
        refine xi_getfield (pc' := 20) (v := .int u2) kc_35_17 rfl rfl rfl A14 rfl ?_
        by_cases c18 : v17.toInt = u2.toInt
        · refine xi_cmf (pc' := 23) kc_35_20 rfl (xc_ne_f (X := v17.toInt) (Y := u2.toInt) rfl rfl (by omega)) ?_
          refine xi_aload_n (pc' := 24) (x := 115) kc_35_23 rfl rfl ?_
          refine xi_getfield (pc' := 27) (v := .ref 144) kc_35_24 rfl rfl rfl A14 rfl ?_
          refine xi_iload_n (pc' := 28) (x := x1) kc_35_27 rfl rfl ?_
          obtain ⟨y19, A19, hy19, ry19⟩ := xk_arr K.1 xD_144
          obtain ⟨v20, ev20, bv20, dv20⟩ := xj_get hy19 ry19 (i := x1) (by omega) (by omega)
          refine xi_iaload (pc' := 29) (v := v20) kc_35_28 rfl A19 (by decide) rfl (xi_in (by omega) (by rw [hy19]; omega)) ev20 ?_
          by_cases c21 : v20.toInt = 0
          · refine xi_iff (pc' := 32) kc_35_29 rfl (xc_ne_f (X := v20.toInt) (Y := 0) rfl (by decide) (by omega)) ?_
            refine xi_iconst (pc' := 33) (v := 4) kc_35_32 rfl rfl ?_
            refine xi_goto (pc' := 37) kc_35_33 rfl ?_
            refine xi_istore_n (pc' := 38) (lv' := [(2, .int 4), (0, .ref 115), (1, .int x1)]) kc_35_37 rfl rfl (xm_lt ml_35 rfl) ?_
            refine xi_aload_n (pc' := 39) (x := 115) kc_35_38 rfl rfl ?_
            refine xi_getfield (pc' := 42) (v := .ref 148) kc_35_39 rfl rfl rfl A14 rfl ?_
            refine xi_iload_n (pc' := 43) (x := x1) kc_35_42 rfl rfl ?_
            refine xi_aload_n (pc' := 44) (x := 115) kc_35_43 rfl rfl ?_
            refine xi_aload_n (pc' := 45) (x := 115) kc_35_44 rfl rfl ?_
            refine xi_getfield (pc' := 48) (v := .ref 143) kc_35_45 rfl rfl rfl A14 rfl ?_
            refine xi_iload_n (pc' := 49) (x := x1) kc_35_48 rfl rfl ?_
            obtain ⟨y22, A22, hy22, ry22⟩ := xk_arr K.1 xD_143
            obtain ⟨v23, ev23, bv23, dv23⟩ := xj_get hy22 ry22 (i := x1) (by omega) (by omega)
            refine xi_iaload (pc' := 50) (v := v23) kc_35_49 rfl A22 (by decide) rfl (xi_in (by omega) (by rw [hy22]; omega)) ev23 ?_
            refine xi_iload_n (pc' := 51) (x := 4) kc_35_50 rfl rfl ?_
            refine xi_virtual (mj := 13) (as := [.int v23, .int 4]) (st1 := [.int x1, .ref 148]) (lv0 := [(0, .ref 115), (1, .int v23), (2, .int 4)]) kc_35_51 rfl rfl rfl rfl rfl A14 (Nat.le_of_ble_eq_true rfl) (hJ _ _ _ _ (by decide)) (xm_le ml_13 rfl) rfl ?_
            refine xi_iload_n (pc' := 1) (x := 4) kc_13_0 rfl rfl ?_
            refine xi_tsi (pc' := 64) (z := 4) kc_13_1 (rfl) rfl (by decide) ?_
            refine xi_aload_n (pc' := 65) (x := 115) kc_13_64 rfl rfl ?_
            refine xi_getfield (pc' := 68) (v := .ref 120) kc_13_65 rfl rfl rfl A14 rfl ?_
            refine xi_iload_n (pc' := 69) (x := v23) kc_13_68 rfl rfl ?_
            obtain ⟨y24, A24, hy24, ry24⟩ := xk_arr K.1 xD_120
            obtain ⟨v25, ev25, bv25, dv25⟩ := xj_get hy24 ry24 (i := v23) (by omega) (by omega)
            refine xi_iaload (pc' := 70) (v := v25) kc_13_69 rfl A24 (by decide) rfl (xi_in (by omega) (by rw [hy24]; omega)) ev25 ?_
            refine xi_ireturn kc_13_70 mr_13 rfl ?_
            show xw J ov (d + 5) 35 (54, [(2, .int 4), (0, .ref 115), (1, .int x1)], [.int v25, .int x1, .ref 148], h) _
            obtain ⟨y26, A26, hy26, ry26⟩ := xk_arr K.1 xD_148
            obtain ⟨y27, s27, hy27, ry27⟩ := xj_set (v := v25) hy26 ry26 x1 (by first | omega | decide) (by first | omega | decide)
            refine xi_iastore (pc' := 55) (x' := y27) kc_35_54 rfl A26 rfl (xi_in (by omega) (by rw [hy26]; omega)) s27 (fun hh27 eh27 => ?_)
            have K28 := xk_pa K (xk_wa (by decide +kernel)) xD_148 hy27 ry27 eh27
            refine xi_aload_n (pc' := 56) (x := 115) kc_35_55 rfl rfl ?_
            refine xi_aload_n (pc' := 57) (x := 115) kc_35_56 rfl rfl ?_
            have A29 := ((eh27.2.1 115 (by decide)).trans A14)
            refine xi_getfield (pc' := 60) (v := .ref 143) kc_35_57 rfl rfl rfl A29 rfl ?_
            refine xi_iload_n (pc' := 61) (x := x1) kc_35_60 rfl rfl ?_
            have A30 := ((eh27.2.1 143 (by decide)).trans A22)
            refine xi_iaload (pc' := 62) (v := v23) kc_35_61 rfl A30 (by decide) rfl (xi_in (by omega) (by rw [hy22]; omega)) ev23 ?_
            refine xi_iload_n (pc' := 63) (x := 4) kc_35_62 rfl rfl ?_
            refine xi_aload_n (pc' := 64) (x := 115) kc_35_63 rfl rfl ?_
            refine xi_getfield (pc' := 67) (v := .ref 144) kc_35_64 rfl rfl rfl A29 rfl ?_
            refine xi_iload_n (pc' := 68) (x := x1) kc_35_67 rfl rfl ?_
            have A31 := ((eh27.2.1 144 (by decide)).trans A19)
            refine xi_iaload (pc' := 69) (v := v20) kc_35_68 rfl A31 (by decide) rfl (xi_in (by omega) (by rw [hy19]; omega)) ev20 ?_
            refine xi_iff (pc' := 72) kc_35_69 rfl (xc_ne_f (X := v20.toInt) (Y := 0) rfl (by decide) (by omega)) ?_
            refine xi_iconst (pc' := 73) (v := 1) kc_35_72 rfl rfl ?_
            refine xi_goto (pc' := 82) kc_35_73 rfl ?_
            refine xi_virtual (mj := 14) (as := [.int v23, .int 4, .int 1]) (st1 := []) (lv0 := [(0, .ref 115), (1, .int v23), (2, .int 4), (3, .int 1)]) kc_35_82 rfl rfl rfl rfl rfl A29 (Nat.le_of_ble_eq_true rfl) (hJ _ _ _ _ (by decide)) (xm_le ml_14 rfl) rfl ?_
            refine xi_aload_n (pc' := 1) (x := 115) kc_14_0 rfl rfl ?_
            refine xi_getfield (pc' := 4) (v := .ref 116) kc_14_1 rfl rfl rfl A29 rfl ?_
            refine xi_iload_n (pc' := 5) (x := v23) kc_14_4 rfl rfl ?_
            refine xi_iload_n (pc' := 6) (x := 4) kc_14_5 rfl rfl ?_
            refine xi_ift (pc' := 13) kc_14_6 rfl rfl ?_
            refine xi_aload_n (pc' := 14) (x := 115) kc_14_13 rfl rfl ?_
            refine xi_getfield (pc' := 17) (v := .ref 116) kc_14_14 rfl rfl rfl A29 rfl ?_
            refine xi_iload_n (pc' := 18) (x := v23) kc_14_17 rfl rfl ?_
            obtain ⟨y32, A32, hy32, ry32⟩ := xk_arr K28.1 xD_116
            obtain ⟨v33, ev33, bv33, dv33⟩ := xj_get hy32 ry32 (i := v23) (by omega) (by omega)
            refine xi_iaload (pc' := 19) (v := v33) kc_14_18 rfl A32 (by decide) rfl (xi_in (by omega) (by rw [hy32]; omega)) ev33 ?_
            obtain ⟨y34, s34, hy34, ry34⟩ := xj_set (v := v33) hy32 ry32 v23 (by first | omega | decide) (by first | omega | decide)
            refine xi_iastore (pc' := 20) (x' := y34) kc_14_19 rfl A32 rfl (xi_in (by omega) (by rw [hy32]; omega)) s34 (fun hh34 eh34 => ?_)
            have K35 := xk_pa K28 (xk_wa (by decide +kernel)) xD_116 hy34 ry34 eh34
            refine xi_aload_n (pc' := 21) (x := 115) kc_14_20 rfl rfl ?_
            have A36 := ((eh34.2.1 115 (by decide)).trans A29)
            refine xi_getfield (pc' := 24) (v := .ref 117) kc_14_21 rfl rfl rfl A36 rfl ?_
            refine xi_iload_n (pc' := 25) (x := v23) kc_14_24 rfl rfl ?_
            refine xi_iload_n (pc' := 26) (x := 4) kc_14_25 rfl rfl ?_
            refine xi_iconst (pc' := 27) (v := 1) kc_14_26 rfl rfl ?_
            refine xi_cmt (pc' := 34) kc_14_27 rfl rfl ?_
            refine xi_aload_n (pc' := 35) (x := 115) kc_14_34 rfl rfl ?_
            refine xi_getfield (pc' := 38) (v := .ref 117) kc_14_35 rfl rfl rfl A36 rfl ?_
            refine xi_iload_n (pc' := 39) (x := v23) kc_14_38 rfl rfl ?_
            obtain ⟨y37, A37, hy37, ry37⟩ := xk_arr K35.1 xD_117
            obtain ⟨v38, ev38, bv38, dv38⟩ := xj_get hy37 ry37 (i := v23) (by omega) (by omega)
            refine xi_iaload (pc' := 40) (v := v38) kc_14_39 rfl A37 (by decide) rfl (xi_in (by omega) (by rw [hy37]; omega)) ev38 ?_
            obtain ⟨y39, s39, hy39, ry39⟩ := xj_set (v := v38) hy37 ry37 v23 (by first | omega | decide) (by first | omega | decide)
            refine xi_iastore (pc' := 41) (x' := y39) kc_14_40 rfl A37 rfl (xi_in (by omega) (by rw [hy37]; omega)) s39 (fun hh39 eh39 => ?_)
            have K40 := xk_pa K35 (xk_wa (by decide +kernel)) xD_117 hy39 ry39 eh39
            refine xi_aload_n (pc' := 42) (x := 115) kc_14_41 rfl rfl ?_
            have A41 := ((eh39.2.1 115 (by decide)).trans A36)
            refine xi_getfield (pc' := 45) (v := .ref 118) kc_14_42 rfl rfl rfl A41 rfl ?_
            refine xi_iload_n (pc' := 46) (x := v23) kc_14_45 rfl rfl ?_
            refine xi_iload_n (pc' := 47) (x := 4) kc_14_46 rfl rfl ?_
            refine xi_iconst (pc' := 48) (v := 2) kc_14_47 rfl rfl ?_
            refine xi_cmt (pc' := 55) kc_14_48 rfl rfl ?_
            refine xi_aload_n (pc' := 56) (x := 115) kc_14_55 rfl rfl ?_
            refine xi_getfield (pc' := 59) (v := .ref 118) kc_14_56 rfl rfl rfl A41 rfl ?_
            refine xi_iload_n (pc' := 60) (x := v23) kc_14_59 rfl rfl ?_
            obtain ⟨y42, A42, hy42, ry42⟩ := xk_arr K40.1 xD_118
            obtain ⟨v43, ev43, bv43, dv43⟩ := xj_get hy42 ry42 (i := v23) (by omega) (by omega)
            refine xi_iaload (pc' := 61) (v := v43) kc_14_60 rfl A42 (by decide) rfl (xi_in (by omega) (by rw [hy42]; omega)) ev43 ?_
            obtain ⟨y44, s44, hy44, ry44⟩ := xj_set (v := v43) hy42 ry42 v23 (by first | omega | decide) (by first | omega | decide)
            refine xi_iastore (pc' := 62) (x' := y44) kc_14_61 rfl A42 rfl (xi_in (by omega) (by rw [hy42]; omega)) s44 (fun hh44 eh44 => ?_)
            have K45 := xk_pa K40 (xk_wa (by decide +kernel)) xD_118 hy44 ry44 eh44
            refine xi_aload_n (pc' := 63) (x := 115) kc_14_62 rfl rfl ?_
            have A46 := ((eh44.2.1 115 (by decide)).trans A41)
            refine xi_getfield (pc' := 66) (v := .ref 119) kc_14_63 rfl rfl rfl A46 rfl ?_
            refine xi_iload_n (pc' := 67) (x := v23) kc_14_66 rfl rfl ?_
            refine xi_iload_n (pc' := 68) (x := 4) kc_14_67 rfl rfl ?_
            refine xi_iconst (pc' := 69) (v := 3) kc_14_68 rfl rfl ?_
            refine xi_cmt (pc' := 76) kc_14_69 rfl rfl ?_
            refine xi_aload_n (pc' := 77) (x := 115) kc_14_76 rfl rfl ?_
            refine xi_getfield (pc' := 80) (v := .ref 119) kc_14_77 rfl rfl rfl A46 rfl ?_
            refine xi_iload_n (pc' := 81) (x := v23) kc_14_80 rfl rfl ?_
            obtain ⟨y47, A47, hy47, ry47⟩ := xk_arr K45.1 xD_119
            obtain ⟨v48, ev48, bv48, dv48⟩ := xj_get hy47 ry47 (i := v23) (by omega) (by omega)
            refine xi_iaload (pc' := 82) (v := v48) kc_14_81 rfl A47 (by decide) rfl (xi_in (by omega) (by rw [hy47]; omega)) ev48 ?_
            obtain ⟨y49, s49, hy49, ry49⟩ := xj_set (v := v48) hy47 ry47 v23 (by first | omega | decide) (by first | omega | decide)
            refine xi_iastore (pc' := 83) (x' := y49) kc_14_82 rfl A47 rfl (xi_in (by omega) (by rw [hy47]; omega)) s49 (fun hh49 eh49 => ?_)
            have K50 := xk_pa K45 (xk_wa (by decide +kernel)) xD_119 hy49 ry49 eh49
            refine xi_aload_n (pc' := 84) (x := 115) kc_14_83 rfl rfl ?_
            have A51 := ((eh49.2.1 115 (by decide)).trans A46)
            refine xi_getfield (pc' := 87) (v := .ref 120) kc_14_84 rfl rfl rfl A51 rfl ?_
            refine xi_iload_n (pc' := 88) (x := v23) kc_14_87 rfl rfl ?_
            refine xi_iload_n (pc' := 89) (x := 4) kc_14_88 rfl rfl ?_
            refine xi_iconst (pc' := 90) (v := 4) kc_14_89 rfl rfl ?_
            refine xi_cmf (pc' := 93) kc_14_90 rfl rfl ?_
            refine xi_iload_n (pc' := 94) (x := 1) kc_14_93 rfl rfl ?_
            refine xi_goto (pc' := 103) kc_14_94 rfl ?_
            have A52 := ((eh49.2.1 120 (by decide)).trans ((eh44.2.1 120 (by decide)).trans ((eh39.2.1 120 (by decide)).trans ((eh34.2.1 120 (by decide)).trans ((eh27.2.1 120 (by decide)).trans A24)))))
            obtain ⟨y53, s53, hy53, ry53⟩ := xj_set (v := 1) hy24 ry24 v23 (by first | omega | decide) (by first | omega | decide)
            refine xi_iastore (pc' := 104) (x' := y53) kc_14_103 rfl A52 rfl (xi_in (by omega) (by rw [hy24]; omega)) s53 (fun hh53 eh53 => ?_)
            have K54 := xk_pa K50 (xk_wa (by decide +kernel)) xD_120 hy53 ry53 eh53
            refine xi_aload_n (pc' := 105) (x := 115) kc_14_104 rfl rfl ?_
            have A55 := ((eh53.2.1 115 (by decide)).trans A51)
            refine xi_getfield (pc' := 108) (v := .ref 121) kc_14_105 rfl rfl rfl A55 rfl ?_
            refine xi_iload_n (pc' := 109) (x := v23) kc_14_108 rfl rfl ?_
            refine xi_iload_n (pc' := 110) (x := 4) kc_14_109 rfl rfl ?_
            refine xi_iconst (pc' := 111) (v := 5) kc_14_110 rfl rfl ?_
            refine xi_cmt (pc' := 118) kc_14_111 rfl rfl ?_
            refine xi_aload_n (pc' := 119) (x := 115) kc_14_118 rfl rfl ?_
            refine xi_getfield (pc' := 122) (v := .ref 121) kc_14_119 rfl rfl rfl A55 rfl ?_
            refine xi_iload_n (pc' := 123) (x := v23) kc_14_122 rfl rfl ?_
            obtain ⟨y56, A56, hy56, ry56⟩ := xk_arr K54.1 xD_121
            obtain ⟨v57, ev57, bv57, dv57⟩ := xj_get hy56 ry56 (i := v23) (by omega) (by omega)
            refine xi_iaload (pc' := 124) (v := v57) kc_14_123 rfl A56 (by decide) rfl (xi_in (by omega) (by rw [hy56]; omega)) ev57 ?_
            obtain ⟨y58, s58, hy58, ry58⟩ := xj_set (v := v57) hy56 ry56 v23 (by first | omega | decide) (by first | omega | decide)
            refine xi_iastore (pc' := 125) (x' := y58) kc_14_124 rfl A56 rfl (xi_in (by omega) (by rw [hy56]; omega)) s58 (fun hh58 eh58 => ?_)
            have K59 := xk_pa K54 (xk_wa (by decide +kernel)) xD_121 hy58 ry58 eh58
            refine xi_aload_n (pc' := 126) (x := 115) kc_14_125 rfl rfl ?_
            refine xi_iconst (pc' := 127) (v := 0) kc_14_126 rfl rfl ?_
            have A60 := ((eh58.2.1 115 (by decide)).trans A55)
            refine xi_putfield (pc' := 130) (fs' := [.int u1, .int u2, .ref 116, .ref 117, .ref 118, .ref 119, .ref 120, .ref 121, .ref 122, .ref 123, .ref 124, .ref 125, .ref 126, .ref 127, .ref 128, .ref 129, .int u3, .ref 130, .int u4, .ref 131, .ref 132, .ref 133, .ref 134, .int u5, .ref 135, .ref 136, .ref 137, .ref 138, .ref 139, .ref 140, .ref 141, .ref 142, .int u6, .int u7, .int u8, .ref 143, .ref 144, .ref 145, .ref 146, .ref 147, .ref 148, .int 0, .ref 149, .ref 150, .ref 151, .int u10, .ref 152, .ref 153, .ref 154, .ref 155, .ref 156, .ref 157, .ref 158, .ref 159, .int u11, .ref 160, .int u12, .ref 161, .ref 162, .ref 163, .ref 164, .int u13, .ref 165, .ref 166]) kc_14_127 rfl rfl rfl A60 rfl rfl rfl (Nat.le_of_ble_eq_true rfl) rfl (fun hh62 eh61 => ?_)
            have K63 := xk_pf (k := 41) (v := 0) K59 (xk_wf (by decide +kernel)) xD_115 A60 rfl (by first | omega | decide) (by first | omega | decide) eh61 rfl
            refine xi_return kc_14_130 mr_14 ?_
            show xw J ov (d + 5) 35 (85, [(2, .int 4), (0, .ref 115), (1, .int x1)], [], hh62) _
            obtain ⟨v64, ev64⟩ : ∃ q : Int32, x1 + 1 = q := ⟨_, rfl⟩
            have zv64 : v64.toInt = (x1.toInt + 1) := by rw [← ev64]; exact (xz_add (X := x1.toInt) (Y := 1) rfl (by decide) (by omega) (by omega)).trans (by omega)
            refine xi_iinc (pc' := 88) (x := x1) (v := v64) (lv' := [(1, .int v64), (2, .int 4), (0, .ref 115)]) kc_35_85 rfl rfl ev64 rfl (xm_lt ml_35 rfl) ?_
            refine xi_goto (pc' := 2) kc_35_88 rfl ?_
            refine xw_lv (b := [(0, .ref 115), (1, .int v64)]) (lvS_cons (lvS_cons (lvS_nil (show ([1, 2, 0] : List Nat).Nodup by decide)) rfl) rfl) ?_
            exact i0 v64 hh62 (by omega) (fun v e => by have e2 := xl_val (u := u2) eh61.1 rfl e; subst e2; omega) K63 (by omega)
          · refine xi_ift (pc' := 36) kc_35_29 rfl (xc_ne_t (X := v20.toInt) (Y := 0) rfl (by decide) (by omega)) ?_
            refine xi_iconst (pc' := 37) (v := 2) kc_35_36 rfl rfl ?_
            refine xi_istore_n (pc' := 38) (lv' := [(2, .int 2), (0, .ref 115), (1, .int x1)]) kc_35_37 rfl rfl (xm_lt ml_35 rfl) ?_
            refine xi_aload_n (pc' := 39) (x := 115) kc_35_38 rfl rfl ?_
            refine xi_getfield (pc' := 42) (v := .ref 148) kc_35_39 rfl rfl rfl A14 rfl ?_
            refine xi_iload_n (pc' := 43) (x := x1) kc_35_42 rfl rfl ?_
            refine xi_aload_n (pc' := 44) (x := 115) kc_35_43 rfl rfl ?_
            refine xi_aload_n (pc' := 45) (x := 115) kc_35_44 rfl rfl ?_
            refine xi_getfield (pc' := 48) (v := .ref 143) kc_35_45 rfl rfl rfl A14 rfl ?_
            refine xi_iload_n (pc' := 49) (x := x1) kc_35_48 rfl rfl ?_
            obtain ⟨y65, A65, hy65, ry65⟩ := xk_arr K.1 xD_143
            obtain ⟨v66, ev66, bv66, dv66⟩ := xj_get hy65 ry65 (i := x1) (by omega) (by omega)
            refine xi_iaload (pc' := 50) (v := v66) kc_35_49 rfl A65 (by decide) rfl (xi_in (by omega) (by rw [hy65]; omega)) ev66 ?_
            refine xi_iload_n (pc' := 51) (x := 2) kc_35_50 rfl rfl ?_
            refine xi_virtual (mj := 13) (as := [.int v66, .int 2]) (st1 := [.int x1, .ref 148]) (lv0 := [(0, .ref 115), (1, .int v66), (2, .int 2)]) kc_35_51 rfl rfl rfl rfl rfl A14 (Nat.le_of_ble_eq_true rfl) (hJ _ _ _ _ (by decide)) (xm_le ml_13 rfl) rfl ?_
            refine xi_iload_n (pc' := 1) (x := 2) kc_13_0 rfl rfl ?_
            refine xi_tsi (pc' := 50) (z := 2) kc_13_1 (rfl) rfl (by decide) ?_
            refine xi_aload_n (pc' := 51) (x := 115) kc_13_50 rfl rfl ?_
            refine xi_getfield (pc' := 54) (v := .ref 118) kc_13_51 rfl rfl rfl A14 rfl ?_
            refine xi_iload_n (pc' := 55) (x := v66) kc_13_54 rfl rfl ?_
            obtain ⟨y67, A67, hy67, ry67⟩ := xk_arr K.1 xD_118
            obtain ⟨v68, ev68, bv68, dv68⟩ := xj_get hy67 ry67 (i := v66) (by omega) (by omega)
            refine xi_iaload (pc' := 56) (v := v68) kc_13_55 rfl A67 (by decide) rfl (xi_in (by omega) (by rw [hy67]; omega)) ev68 ?_
            refine xi_ireturn kc_13_56 mr_13 rfl ?_
            show xw J ov (d + 5) 35 (54, [(2, .int 2), (0, .ref 115), (1, .int x1)], [.int v68, .int x1, .ref 148], h) _
            obtain ⟨y69, A69, hy69, ry69⟩ := xk_arr K.1 xD_148
            obtain ⟨y70, s70, hy70, ry70⟩ := xj_set (v := v68) hy69 ry69 x1 (by first | omega | decide) (by first | omega | decide)
            refine xi_iastore (pc' := 55) (x' := y70) kc_35_54 rfl A69 rfl (xi_in (by omega) (by rw [hy69]; omega)) s70 (fun hh70 eh70 => ?_)
            have K71 := xk_pa K (xk_wa (by decide +kernel)) xD_148 hy70 ry70 eh70
            refine xi_aload_n (pc' := 56) (x := 115) kc_35_55 rfl rfl ?_
            refine xi_aload_n (pc' := 57) (x := 115) kc_35_56 rfl rfl ?_
            have A72 := ((eh70.2.1 115 (by decide)).trans A14)
            refine xi_getfield (pc' := 60) (v := .ref 143) kc_35_57 rfl rfl rfl A72 rfl ?_
            refine xi_iload_n (pc' := 61) (x := x1) kc_35_60 rfl rfl ?_
            have A73 := ((eh70.2.1 143 (by decide)).trans A65)
            refine xi_iaload (pc' := 62) (v := v66) kc_35_61 rfl A73 (by decide) rfl (xi_in (by omega) (by rw [hy65]; omega)) ev66 ?_
            refine xi_iload_n (pc' := 63) (x := 2) kc_35_62 rfl rfl ?_
            refine xi_aload_n (pc' := 64) (x := 115) kc_35_63 rfl rfl ?_
            refine xi_getfield (pc' := 67) (v := .ref 144) kc_35_64 rfl rfl rfl A72 rfl ?_
            refine xi_iload_n (pc' := 68) (x := x1) kc_35_67 rfl rfl ?_
            have A74 := ((eh70.2.1 144 (by decide)).trans A19)
            refine xi_iaload (pc' := 69) (v := v20) kc_35_68 rfl A74 (by decide) rfl (xi_in (by omega) (by rw [hy19]; omega)) ev20 ?_
            refine xi_ift (pc' := 76) kc_35_69 rfl (xc_ne_t (X := v20.toInt) (Y := 0) rfl (by decide) (by omega)) ?_
            refine xi_aload_n (pc' := 77) (x := 115) kc_35_76 rfl rfl ?_
            refine xi_getfield (pc' := 80) (v := .ref 145) kc_35_77 rfl rfl rfl A72 rfl ?_
            refine xi_iload_n (pc' := 81) (x := x1) kc_35_80 rfl rfl ?_
            obtain ⟨y75, A75, hy75, ry75⟩ := xk_arr K71.1 xD_145
            obtain ⟨v76, ev76, bv76, dv76⟩ := xj_get hy75 ry75 (i := x1) (by omega) (by omega)
            refine xi_iaload (pc' := 82) (v := v76) kc_35_81 rfl A75 (by decide) rfl (xi_in (by omega) (by rw [hy75]; omega)) ev76 ?_
            refine xi_virtual (mj := 14) (as := [.int v66, .int 2, .int v76]) (st1 := []) (lv0 := [(0, .ref 115), (1, .int v66), (2, .int 2), (3, .int v76)]) kc_35_82 rfl rfl rfl rfl rfl A72 (Nat.le_of_ble_eq_true rfl) (hJ _ _ _ _ (by decide)) (xm_le ml_14 rfl) rfl ?_
            refine xi_aload_n (pc' := 1) (x := 115) kc_14_0 rfl rfl ?_
            refine xi_getfield (pc' := 4) (v := .ref 116) kc_14_1 rfl rfl rfl A72 rfl ?_
            refine xi_iload_n (pc' := 5) (x := v66) kc_14_4 rfl rfl ?_
            refine xi_iload_n (pc' := 6) (x := 2) kc_14_5 rfl rfl ?_
            refine xi_ift (pc' := 13) kc_14_6 rfl rfl ?_
            refine xi_aload_n (pc' := 14) (x := 115) kc_14_13 rfl rfl ?_
            refine xi_getfield (pc' := 17) (v := .ref 116) kc_14_14 rfl rfl rfl A72 rfl ?_
            refine xi_iload_n (pc' := 18) (x := v66) kc_14_17 rfl rfl ?_
            obtain ⟨y77, A77, hy77, ry77⟩ := xk_arr K71.1 xD_116
            obtain ⟨v78, ev78, bv78, dv78⟩ := xj_get hy77 ry77 (i := v66) (by omega) (by omega)
            refine xi_iaload (pc' := 19) (v := v78) kc_14_18 rfl A77 (by decide) rfl (xi_in (by omega) (by rw [hy77]; omega)) ev78 ?_
            obtain ⟨y79, s79, hy79, ry79⟩ := xj_set (v := v78) hy77 ry77 v66 (by first | omega | decide) (by first | omega | decide)
            refine xi_iastore (pc' := 20) (x' := y79) kc_14_19 rfl A77 rfl (xi_in (by omega) (by rw [hy77]; omega)) s79 (fun hh79 eh79 => ?_)
            have K80 := xk_pa K71 (xk_wa (by decide +kernel)) xD_116 hy79 ry79 eh79
            refine xi_aload_n (pc' := 21) (x := 115) kc_14_20 rfl rfl ?_
            have A81 := ((eh79.2.1 115 (by decide)).trans A72)
            refine xi_getfield (pc' := 24) (v := .ref 117) kc_14_21 rfl rfl rfl A81 rfl ?_
            refine xi_iload_n (pc' := 25) (x := v66) kc_14_24 rfl rfl ?_
            refine xi_iload_n (pc' := 26) (x := 2) kc_14_25 rfl rfl ?_
            refine xi_iconst (pc' := 27) (v := 1) kc_14_26 rfl rfl ?_
            refine xi_cmt (pc' := 34) kc_14_27 rfl rfl ?_
            refine xi_aload_n (pc' := 35) (x := 115) kc_14_34 rfl rfl ?_
            refine xi_getfield (pc' := 38) (v := .ref 117) kc_14_35 rfl rfl rfl A81 rfl ?_
            refine xi_iload_n (pc' := 39) (x := v66) kc_14_38 rfl rfl ?_
            obtain ⟨y82, A82, hy82, ry82⟩ := xk_arr K80.1 xD_117
            obtain ⟨v83, ev83, bv83, dv83⟩ := xj_get hy82 ry82 (i := v66) (by omega) (by omega)
            refine xi_iaload (pc' := 40) (v := v83) kc_14_39 rfl A82 (by decide) rfl (xi_in (by omega) (by rw [hy82]; omega)) ev83 ?_
            obtain ⟨y84, s84, hy84, ry84⟩ := xj_set (v := v83) hy82 ry82 v66 (by first | omega | decide) (by first | omega | decide)
            refine xi_iastore (pc' := 41) (x' := y84) kc_14_40 rfl A82 rfl (xi_in (by omega) (by rw [hy82]; omega)) s84 (fun hh84 eh84 => ?_)
            have K85 := xk_pa K80 (xk_wa (by decide +kernel)) xD_117 hy84 ry84 eh84
            refine xi_aload_n (pc' := 42) (x := 115) kc_14_41 rfl rfl ?_
            have A86 := ((eh84.2.1 115 (by decide)).trans A81)
            refine xi_getfield (pc' := 45) (v := .ref 118) kc_14_42 rfl rfl rfl A86 rfl ?_
            refine xi_iload_n (pc' := 46) (x := v66) kc_14_45 rfl rfl ?_
            refine xi_iload_n (pc' := 47) (x := 2) kc_14_46 rfl rfl ?_
            refine xi_iconst (pc' := 48) (v := 2) kc_14_47 rfl rfl ?_
            refine xi_cmf (pc' := 51) kc_14_48 rfl rfl ?_
            refine xi_iload_n (pc' := 52) (x := v76) kc_14_51 rfl rfl ?_
            refine xi_goto (pc' := 61) kc_14_52 rfl ?_
            have A87 := ((eh84.2.1 118 (by decide)).trans ((eh79.2.1 118 (by decide)).trans ((eh70.2.1 118 (by decide)).trans A67)))
            obtain ⟨y88, s88, hy88, ry88⟩ := xj_set (v := v76) hy67 ry67 v66 (by first | omega | decide) (by first | omega | decide)
            refine xi_iastore (pc' := 62) (x' := y88) kc_14_61 rfl A87 rfl (xi_in (by omega) (by rw [hy67]; omega)) s88 (fun hh88 eh88 => ?_)
            have K89 := xk_pa K85 (xk_wa (by decide +kernel)) xD_118 hy88 ry88 eh88
            refine xi_aload_n (pc' := 63) (x := 115) kc_14_62 rfl rfl ?_
            have A90 := ((eh88.2.1 115 (by decide)).trans A86)
            refine xi_getfield (pc' := 66) (v := .ref 119) kc_14_63 rfl rfl rfl A90 rfl ?_
            refine xi_iload_n (pc' := 67) (x := v66) kc_14_66 rfl rfl ?_
            refine xi_iload_n (pc' := 68) (x := 2) kc_14_67 rfl rfl ?_
            refine xi_iconst (pc' := 69) (v := 3) kc_14_68 rfl rfl ?_
            refine xi_cmt (pc' := 76) kc_14_69 rfl rfl ?_
            refine xi_aload_n (pc' := 77) (x := 115) kc_14_76 rfl rfl ?_
            refine xi_getfield (pc' := 80) (v := .ref 119) kc_14_77 rfl rfl rfl A90 rfl ?_
            refine xi_iload_n (pc' := 81) (x := v66) kc_14_80 rfl rfl ?_
            obtain ⟨y91, A91, hy91, ry91⟩ := xk_arr K89.1 xD_119
            obtain ⟨v92, ev92, bv92, dv92⟩ := xj_get hy91 ry91 (i := v66) (by omega) (by omega)
            refine xi_iaload (pc' := 82) (v := v92) kc_14_81 rfl A91 (by decide) rfl (xi_in (by omega) (by rw [hy91]; omega)) ev92 ?_
            obtain ⟨y93, s93, hy93, ry93⟩ := xj_set (v := v92) hy91 ry91 v66 (by first | omega | decide) (by first | omega | decide)
            refine xi_iastore (pc' := 83) (x' := y93) kc_14_82 rfl A91 rfl (xi_in (by omega) (by rw [hy91]; omega)) s93 (fun hh93 eh93 => ?_)
            have K94 := xk_pa K89 (xk_wa (by decide +kernel)) xD_119 hy93 ry93 eh93
            refine xi_aload_n (pc' := 84) (x := 115) kc_14_83 rfl rfl ?_
            have A95 := ((eh93.2.1 115 (by decide)).trans A90)
            refine xi_getfield (pc' := 87) (v := .ref 120) kc_14_84 rfl rfl rfl A95 rfl ?_
            refine xi_iload_n (pc' := 88) (x := v66) kc_14_87 rfl rfl ?_
            refine xi_iload_n (pc' := 89) (x := 2) kc_14_88 rfl rfl ?_
            refine xi_iconst (pc' := 90) (v := 4) kc_14_89 rfl rfl ?_
            refine xi_cmt (pc' := 97) kc_14_90 rfl rfl ?_
            refine xi_aload_n (pc' := 98) (x := 115) kc_14_97 rfl rfl ?_
            refine xi_getfield (pc' := 101) (v := .ref 120) kc_14_98 rfl rfl rfl A95 rfl ?_
            refine xi_iload_n (pc' := 102) (x := v66) kc_14_101 rfl rfl ?_
            obtain ⟨y96, A96, hy96, ry96⟩ := xk_arr K94.1 xD_120
            obtain ⟨v97, ev97, bv97, dv97⟩ := xj_get hy96 ry96 (i := v66) (by omega) (by omega)
            refine xi_iaload (pc' := 103) (v := v97) kc_14_102 rfl A96 (by decide) rfl (xi_in (by omega) (by rw [hy96]; omega)) ev97 ?_
            obtain ⟨y98, s98, hy98, ry98⟩ := xj_set (v := v97) hy96 ry96 v66 (by first | omega | decide) (by first | omega | decide)
            refine xi_iastore (pc' := 104) (x' := y98) kc_14_103 rfl A96 rfl (xi_in (by omega) (by rw [hy96]; omega)) s98 (fun hh98 eh98 => ?_)
            have K99 := xk_pa K94 (xk_wa (by decide +kernel)) xD_120 hy98 ry98 eh98
            refine xi_aload_n (pc' := 105) (x := 115) kc_14_104 rfl rfl ?_
            have A100 := ((eh98.2.1 115 (by decide)).trans A95)
            refine xi_getfield (pc' := 108) (v := .ref 121) kc_14_105 rfl rfl rfl A100 rfl ?_
            refine xi_iload_n (pc' := 109) (x := v66) kc_14_108 rfl rfl ?_
            refine xi_iload_n (pc' := 110) (x := 2) kc_14_109 rfl rfl ?_
            refine xi_iconst (pc' := 111) (v := 5) kc_14_110 rfl rfl ?_
            refine xi_cmt (pc' := 118) kc_14_111 rfl rfl ?_
            refine xi_aload_n (pc' := 119) (x := 115) kc_14_118 rfl rfl ?_
            refine xi_getfield (pc' := 122) (v := .ref 121) kc_14_119 rfl rfl rfl A100 rfl ?_
            refine xi_iload_n (pc' := 123) (x := v66) kc_14_122 rfl rfl ?_
            obtain ⟨y101, A101, hy101, ry101⟩ := xk_arr K99.1 xD_121
            obtain ⟨v102, ev102, bv102, dv102⟩ := xj_get hy101 ry101 (i := v66) (by omega) (by omega)
            refine xi_iaload (pc' := 124) (v := v102) kc_14_123 rfl A101 (by decide) rfl (xi_in (by omega) (by rw [hy101]; omega)) ev102 ?_
            obtain ⟨y103, s103, hy103, ry103⟩ := xj_set (v := v102) hy101 ry101 v66 (by first | omega | decide) (by first | omega | decide)
            refine xi_iastore (pc' := 125) (x' := y103) kc_14_124 rfl A101 rfl (xi_in (by omega) (by rw [hy101]; omega)) s103 (fun hh103 eh103 => ?_)
            have K104 := xk_pa K99 (xk_wa (by decide +kernel)) xD_121 hy103 ry103 eh103
            refine xi_aload_n (pc' := 126) (x := 115) kc_14_125 rfl rfl ?_
            refine xi_iconst (pc' := 127) (v := 0) kc_14_126 rfl rfl ?_
            have A105 := ((eh103.2.1 115 (by decide)).trans A100)
            refine xi_putfield (pc' := 130) (fs' := [.int u1, .int u2, .ref 116, .ref 117, .ref 118, .ref 119, .ref 120, .ref 121, .ref 122, .ref 123, .ref 124, .ref 125, .ref 126, .ref 127, .ref 128, .ref 129, .int u3, .ref 130, .int u4, .ref 131, .ref 132, .ref 133, .ref 134, .int u5, .ref 135, .ref 136, .ref 137, .ref 138, .ref 139, .ref 140, .ref 141, .ref 142, .int u6, .int u7, .int u8, .ref 143, .ref 144, .ref 145, .ref 146, .ref 147, .ref 148, .int 0, .ref 149, .ref 150, .ref 151, .int u10, .ref 152, .ref 153, .ref 154, .ref 155, .ref 156, .ref 157, .ref 158, .ref 159, .int u11, .ref 160, .int u12, .ref 161, .ref 162, .ref 163, .ref 164, .int u13, .ref 165, .ref 166]) kc_14_127 rfl rfl rfl A105 rfl rfl rfl (Nat.le_of_ble_eq_true rfl) rfl (fun hh107 eh106 => ?_)
            have K108 := xk_pf (k := 41) (v := 0) K104 (xk_wf (by decide +kernel)) xD_115 A105 rfl (by first | omega | decide) (by first | omega | decide) eh106 rfl
            refine xi_return kc_14_130 mr_14 ?_
            show xw J ov (d + 5) 35 (85, [(2, .int 2), (0, .ref 115), (1, .int x1)], [], hh107) _
            obtain ⟨v109, ev109⟩ : ∃ q : Int32, x1 + 1 = q := ⟨_, rfl⟩
            have zv109 : v109.toInt = (x1.toInt + 1) := by rw [← ev109]; exact (xz_add (X := x1.toInt) (Y := 1) rfl (by decide) (by omega) (by omega)).trans (by omega)
            refine xi_iinc (pc' := 88) (x := x1) (v := v109) (lv' := [(1, .int v109), (2, .int 2), (0, .ref 115)]) kc_35_85 rfl rfl ev109 rfl (xm_lt ml_35 rfl) ?_
            refine xi_goto (pc' := 2) kc_35_88 rfl ?_
            refine xw_lv (b := [(0, .ref 115), (1, .int v109)]) (lvS_cons (lvS_cons (lvS_nil (show ([1, 2, 0] : List Nat).Nodup by decide)) rfl) rfl) ?_
            exact i0 v109 hh107 (by omega) (fun v e => by have e2 := xl_val (u := u2) eh106.1 rfl e; subst e2; omega) K108 (by omega)
        · refine xi_cmt (pc' := 85) kc_35_20 rfl (xc_ne_t (X := v17.toInt) (Y := u2.toInt) rfl rfl (by omega)) ?_
          obtain ⟨v110, ev110⟩ : ∃ q : Int32, x1 + 1 = q := ⟨_, rfl⟩
          have zv110 : v110.toInt = (x1.toInt + 1) := by rw [← ev110]; exact (xz_add (X := x1.toInt) (Y := 1) rfl (by decide) (by omega) (by omega)).trans (by omega)
          refine xi_iinc (pc' := 88) (x := x1) (v := v110) (lv' := [(1, .int v110), (0, .ref 115)]) kc_35_85 rfl rfl ev110 rfl (xm_lt ml_35 rfl) ?_
          refine xi_goto (pc' := 2) kc_35_88 rfl ?_
          refine xw_lv (b := [(0, .ref 115), (1, .int v110)]) (lvS_cons (lvS_cons (lvS_nil (show ([1, 0] : List Nat).Nodup by decide)) rfl) rfl) ?_
          exact i0 v110 h (by omega) (fun v e => by have e2 := xl_val (u := u2) A14 rfl e; subst e2; omega) K (by omega)
    · intro x1 h b1 gh0 K hm
      obtain ⟨u1, u2, u3, u4, u5, u6, u7, u8, u9, u10, u11, u12, u13, bu1, bu2, bu3, bu4, bu5, bu6, bu7, bu8, bu9, bu10, bu11, bu12, bu13, A14⟩ := xq_115 K.1
      have gh0' := gh0 _ (xl_of A14 rfl)
      refine xi_iload_n (pc' := 94) (x := x1) kc_35_93 rfl rfl ?_
      refine xi_bipush (pc' := 96) (v := 6) kc_35_94 rfl rfl ?_
      by_cases c15 : 6 ≤ x1.toInt
      · refine xi_cmt (pc' := 117) kc_35_96 rfl (xc_ge_t (X := x1.toInt) (Y := 6) rfl (by decide) (by omega)) ?_
        refine xi_iconst (pc' := 118) (v := 0) kc_35_117 rfl rfl ?_
        refine xi_istore_n (pc' := 119) (lv' := [(1, .int 0), (0, .ref 115)]) kc_35_118 rfl rfl (xm_lt ml_35 rfl) ?_
        have zc0 : (0 : Int32).toInt = 0 := by decide
        refine xw_lv (b := [(0, .ref 115), (1, .int 0)]) (lvS_cons (lvS_cons (lvS_nil (show ([1, 0] : List Nat).Nodup by decide)) rfl) rfl) ?_
        exact i2 0 h (by omega) (fun v e => by have e2 := xl_val (u := u2) A14 rfl e; subst e2; omega) K (by omega)
      · refine xi_cmf (pc' := 99) kc_35_96 rfl (xc_ge_f (X := x1.toInt) (Y := 6) rfl (by decide) (by omega)) ?_
        refine xi_aload_n (pc' := 100) (x := 115) kc_35_99 rfl rfl ?_
        refine xi_getfield (pc' := 103) (v := .ref 141) kc_35_100 rfl rfl rfl A14 rfl ?_
        refine xi_iload_n (pc' := 104) (x := x1) kc_35_103 rfl rfl ?_
        refine xi_aload_n (pc' := 105) (x := 115) kc_35_104 rfl rfl ?_
        refine xi_getfield (pc' := 108) (v := .ref 121) kc_35_105 rfl rfl rfl A14 rfl ?_
        refine xi_iload_n (pc' := 109) (x := x1) kc_35_108 rfl rfl ?_
        obtain ⟨y16, A16, hy16, ry16⟩ := xk_arr K.1 xD_121
        obtain ⟨v17, ev17, bv17, dv17⟩ := xj_get hy16 ry16 (i := x1) (by omega) (by omega)
        refine xi_iaload (pc' := 110) (v := v17) kc_35_109 rfl A16 (by decide) rfl (xi_in (by omega) (by rw [hy16]; omega)) ev17 ?_
        obtain ⟨y18, A18, hy18, ry18⟩ := xk_arr K.1 xD_141
        obtain ⟨y19, s19, hy19, ry19⟩ := xj_set (v := v17) hy18 ry18 x1 (by first | omega | decide) (by first | omega | decide)
        refine xi_iastore (pc' := 111) (x' := y19) kc_35_110 rfl A18 rfl (xi_in (by omega) (by rw [hy18]; omega)) s19 (fun hh19 eh19 => ?_)
        have K20 := xk_pa K (xk_wa (by decide +kernel)) xD_141 hy19 ry19 eh19
        obtain ⟨v21, ev21⟩ : ∃ q : Int32, x1 + 1 = q := ⟨_, rfl⟩
        have zv21 : v21.toInt = (x1.toInt + 1) := by rw [← ev21]; exact (xz_add (X := x1.toInt) (Y := 1) rfl (by decide) (by omega) (by omega)).trans (by omega)
        refine xi_iinc (pc' := 114) (x := x1) (v := v21) (lv' := [(1, .int v21), (0, .ref 115)]) kc_35_111 rfl rfl ev21 rfl (xm_lt ml_35 rfl) ?_
        refine xi_goto (pc' := 93) kc_35_114 rfl ?_
        have A22 := ((eh19.2.1 115 (by decide)).trans A14)
        refine xw_lv (b := [(0, .ref 115), (1, .int v21)]) (lvS_cons (lvS_cons (lvS_nil (show ([1, 0] : List Nat).Nodup by decide)) rfl) rfl) ?_
        exact i1 v21 hh19 (by omega) (fun v e => by have e2 := xl_val (u := u2) A22 rfl e; subst e2; omega) K20 (by omega)
    · intro x1 h b1 gh0 K hm
      obtain ⟨u1, u2, u3, u4, u5, u6, u7, u8, u9, u10, u11, u12, u13, bu1, bu2, bu3, bu4, bu5, bu6, bu7, bu8, bu9, bu10, bu11, bu12, bu13, A14⟩ := xq_115 K.1
      have gh0' := gh0 _ (xl_of A14 rfl)
      refine xi_iload_n (pc' := 120) (x := x1) kc_35_119 rfl rfl ?_
      refine xi_bipush (pc' := 122) (v := 12) kc_35_120 rfl rfl ?_
      by_cases c15 : 12 ≤ x1.toInt
      · refine xi_cmt (pc' := 143) kc_35_122 rfl (xc_ge_t (X := x1.toInt) (Y := 12) rfl (by decide) (by omega)) ?_
        refine xi_aload_n (pc' := 144) (x := 115) kc_35_143 rfl rfl ?_
        refine xi_aload_n (pc' := 145) (x := 115) kc_35_144 rfl rfl ?_
        refine xi_aload_n (pc' := 146) (x := 115) kc_35_145 rfl rfl ?_
        refine xi_getfield (pc' := 149) (v := .int u2) kc_35_146 rfl rfl rfl A14 rfl ?_
        refine xi_virtual (mj := 19) (as := [.int u2]) (st1 := [.ref 115]) (lv0 := [(0, .ref 115), (1, .int u2)]) kc_35_149 rfl rfl rfl rfl rfl A14 (Nat.le_of_ble_eq_true rfl) (hJ _ _ _ _ (by decide)) (xm_le ml_19 rfl) rfl ?_
        refine mt_19_0 hJ hov1 hov2 (d := d + 3) (x1 := u2) K.1 (by first | omega | decide) (fun r16 hh17 br16 K18 => ?_)
        have K19 := xk_tr K K18 (xsb_ok _ _ (by decide +kernel))
        obtain ⟨u20, u21, u22, u23, u24, u25, u26, u27, u28, u29, u30, u31, u32, bu20, bu21, bu22, bu23, bu24, bu25, bu26, bu27, bu28, bu29, bu30, bu31, bu32, A33⟩ := xq_115 K19.1
        have e34 : u2 = u21 := xk_eqi (q := 1) K18 (by decide +kernel) A14 A33 rfl rfl
        subst e34
        have e35 : u5 = u24 := xk_eqi (q := 23) K18 (by decide +kernel) A14 A33 rfl rfl
        subst e35
        have e36 : u8 = u27 := xk_eqi (q := 34) K18 (by decide +kernel) A14 A33 rfl rfl
        subst e36
        have e37 : u6 = u25 := xk_eqi (q := 32) K18 (by decide +kernel) A14 A33 rfl rfl
        subst e37
        show xw J ov (d + 5) 35 (152, [(0, .ref 115), (1, .int x1)], [.int r16, .ref 115], hh17) _
        refine xi_putfield (pc' := 155) (fs' := [.int u20, .int u2, .ref 116, .ref 117, .ref 118, .ref 119, .ref 120, .ref 121, .ref 122, .ref 123, .ref 124, .ref 125, .ref 126, .ref 127, .ref 128, .ref 129, .int u22, .ref 130, .int u23, .ref 131, .ref 132, .ref 133, .ref 134, .int u5, .ref 135, .ref 136, .ref 137, .ref 138, .ref 139, .ref 140, .ref 141, .ref 142, .int r16, .int u26, .int u8, .ref 143, .ref 144, .ref 145, .ref 146, .ref 147, .ref 148, .int u28, .ref 149, .ref 150, .ref 151, .int u29, .ref 152, .ref 153, .ref 154, .ref 155, .ref 156, .ref 157, .ref 158, .ref 159, .int u30, .ref 160, .int u31, .ref 161, .ref 162, .ref 163, .ref 164, .int u32, .ref 165, .ref 166]) kc_35_152 rfl rfl rfl A33 rfl rfl rfl (Nat.le_of_ble_eq_true rfl) rfl (fun hh39 eh38 => ?_)
        have K40 := xk_pf (k := 32) (v := r16) K19 (xk_wf (by decide +kernel)) xD_115 A33 rfl (by first | omega | decide) (by first | omega | decide) eh38 rfl
        refine xi_aload_n (pc' := 156) (x := 115) kc_35_155 rfl rfl ?_
        refine xi_aload_n (pc' := 157) (x := 115) kc_35_156 rfl rfl ?_
        refine xi_aload_n (pc' := 158) (x := 115) kc_35_157 rfl rfl ?_
        refine xi_getfield (pc' := 161) (v := .int u2) kc_35_158 rfl rfl rfl eh38.1 rfl ?_
        refine xi_virtual (mj := 20) (as := [.int u2]) (st1 := [.ref 115]) (lv0 := [(0, .ref 115), (1, .int u2)]) kc_35_161 rfl rfl rfl rfl rfl eh38.1 (Nat.le_of_ble_eq_true rfl) (hJ _ _ _ _ (by decide)) (xm_le ml_20 rfl) rfl ?_
        refine mt_20_0 hJ hov1 hov2 (d := d + 3) (x1 := u2) K40.1 (by first | omega | decide) (fun r41 hh42 K43 => ?_)
        have br41 := xc_rng r41
        have K44 := xk_tr K40 K43 (xsb_ok _ _ (by decide +kernel))
        obtain ⟨u45, u46, u47, u48, u49, u50, u51, u52, u53, u54, u55, u56, u57, bu45, bu46, bu47, bu48, bu49, bu50, bu51, bu52, bu53, bu54, bu55, bu56, bu57, A58⟩ := xq_115 K44.1
        have e59 : u2 = u46 := xk_eqi (q := 1) K43 (by decide +kernel) eh38.1 A58 rfl rfl
        subst e59
        have e60 : u5 = u49 := xk_eqi (q := 23) K43 (by decide +kernel) eh38.1 A58 rfl rfl
        subst e60
        have e61 : u8 = u52 := xk_eqi (q := 34) K43 (by decide +kernel) eh38.1 A58 rfl rfl
        subst e61
        have e62 : r16 = u50 := xk_eqi (q := 32) K43 (by decide +kernel) eh38.1 A58 rfl rfl
        subst e62
        show xw J ov (d + 5) 35 (164, [(0, .ref 115), (1, .int x1)], [.int r41, .ref 115], hh42) _
        refine xi_putfield (pc' := 167) (fs' := [.int u45, .int u2, .ref 116, .ref 117, .ref 118, .ref 119, .ref 120, .ref 121, .ref 122, .ref 123, .ref 124, .ref 125, .ref 126, .ref 127, .ref 128, .ref 129, .int u47, .ref 130, .int u48, .ref 131, .ref 132, .ref 133, .ref 134, .int u5, .ref 135, .ref 136, .ref 137, .ref 138, .ref 139, .ref 140, .ref 141, .ref 142, .int r16, .int r41, .int u8, .ref 143, .ref 144, .ref 145, .ref 146, .ref 147, .ref 148, .int u53, .ref 149, .ref 150, .ref 151, .int u54, .ref 152, .ref 153, .ref 154, .ref 155, .ref 156, .ref 157, .ref 158, .ref 159, .int u55, .ref 160, .int u56, .ref 161, .ref 162, .ref 163, .ref 164, .int u57, .ref 165, .ref 166]) kc_35_164 rfl rfl rfl A58 rfl rfl rfl (Nat.le_of_ble_eq_true rfl) rfl (fun hh64 eh63 => ?_)
        have K65 := xk_pf (k := 33) (v := r41) K44 (xk_wf (by decide +kernel)) xD_115 A58 rfl (by first | omega | decide) (by first | omega | decide) eh63 rfl
        refine xi_aload_n (pc' := 168) (x := 115) kc_35_167 rfl rfl ?_
        refine xi_iconst (pc' := 169) (v := 0) kc_35_168 rfl rfl ?_
        refine xi_iconst (pc' := 170) (v := 1) kc_35_169 rfl rfl ?_
        refine xi_aload_n (pc' := 171) (x := 115) kc_35_170 rfl rfl ?_
        refine xi_getfield (pc' := 174) (v := .int u2) kc_35_171 rfl rfl rfl eh63.1 rfl ?_
        refine xi_virtual (mj := 36) (as := [.int 0, .int 1, .int u2]) (st1 := []) (lv0 := [(0, .ref 115), (1, .int 0), (2, .int 1), (3, .int u2)]) kc_35_174 rfl rfl rfl rfl rfl eh63.1 (Nat.le_of_ble_eq_true rfl) (hJ _ _ _ _ (by decide)) (xm_le ml_36 rfl) rfl ?_
        have zc0 : (0 : Int32).toInt = 0 := by decide
        have zc1 : (1 : Int32).toInt = 1 := by decide
        refine mt_36_0 hJ hov1 hov2 (d := d) (x1 := 0) (x2 := 1) (x3 := u2) K65.1 (by first | omega | decide) (by first | omega | decide) (by first | omega | decide) (fun hh67 K68 => ?_)
        have K69 := xk_tr K65 K68 (xsb_ok _ _ (by decide +kernel))
        obtain ⟨u70, u71, u72, u73, u74, u75, u76, u77, u78, u79, u80, u81, u82, bu70, bu71, bu72, bu73, bu74, bu75, bu76, bu77, bu78, bu79, bu80, bu81, bu82, A83⟩ := xq_115 K69.1
        have e84 : u2 = u71 := xk_eqi (q := 1) K68 (by decide +kernel) eh63.1 A83 rfl rfl
        subst e84
        have e85 : u5 = u74 := xk_eqi (q := 23) K68 (by decide +kernel) eh63.1 A83 rfl rfl
        subst e85
        have e86 : u8 = u77 := xk_eqi (q := 34) K68 (by decide +kernel) eh63.1 A83 rfl rfl
        subst e86
        have e87 : r16 = u75 := xk_eqi (q := 32) K68 (by decide +kernel) eh63.1 A83 rfl rfl
        subst e87
        show xw J ov (d + 5) 35 (177, [(0, .ref 115), (1, .int x1)], [], hh67) _
        refine xi_iconst (pc' := 178) (v := 0) kc_35_177 rfl rfl ?_
        refine xi_istore_n (pc' := 179) (lv' := [(1, .int 0), (0, .ref 115)]) kc_35_178 rfl rfl (xm_lt ml_35 rfl) ?_
        have zc0 : (0 : Int32).toInt = 0 := by decide
        refine xw_lv (b := [(0, .ref 115), (1, .int 0)]) (lvS_cons (lvS_cons (lvS_nil (show ([1, 0] : List Nat).Nodup by decide)) rfl) rfl) ?_
        exact i3 0 hh67 (by omega) (fun v e => by have e2 := xl_val (u := u2) A83 rfl e; subst e2; omega) K69 (by omega)
      · refine xi_cmf (pc' := 125) kc_35_122 rfl (xc_ge_f (X := x1.toInt) (Y := 12) rfl (by decide) (by omega)) ?_
        refine xi_aload_n (pc' := 126) (x := 115) kc_35_125 rfl rfl ?_
        refine xi_getfield (pc' := 129) (v := .ref 142) kc_35_126 rfl rfl rfl A14 rfl ?_
        refine xi_iload_n (pc' := 130) (x := x1) kc_35_129 rfl rfl ?_
        refine xi_aload_n (pc' := 131) (x := 115) kc_35_130 rfl rfl ?_
        refine xi_getfield (pc' := 134) (v := .ref 128) kc_35_131 rfl rfl rfl A14 rfl ?_
        refine xi_iload_n (pc' := 135) (x := x1) kc_35_134 rfl rfl ?_
        obtain ⟨y88, A88, hy88, ry88⟩ := xk_arr K.1 xD_128
        obtain ⟨v89, ev89, bv89, dv89⟩ := xj_get hy88 ry88 (i := x1) (by omega) (by omega)
        refine xi_iaload (pc' := 136) (v := v89) kc_35_135 rfl A88 (by decide) rfl (xi_in (by omega) (by rw [hy88]; omega)) ev89 ?_
        obtain ⟨y90, A90, hy90, ry90⟩ := xk_arr K.1 xD_142
        obtain ⟨y91, s91, hy91, ry91⟩ := xj_set (v := v89) hy90 ry90 x1 (by first | omega | decide) (by first | omega | decide)
        refine xi_iastore (pc' := 137) (x' := y91) kc_35_136 rfl A90 rfl (xi_in (by omega) (by rw [hy90]; omega)) s91 (fun hh91 eh91 => ?_)
        have K92 := xk_pa K (xk_wa (by decide +kernel)) xD_142 hy91 ry91 eh91
        obtain ⟨v93, ev93⟩ : ∃ q : Int32, x1 + 1 = q := ⟨_, rfl⟩
        have zv93 : v93.toInt = (x1.toInt + 1) := by rw [← ev93]; exact (xz_add (X := x1.toInt) (Y := 1) rfl (by decide) (by omega) (by omega)).trans (by omega)
        refine xi_iinc (pc' := 140) (x := x1) (v := v93) (lv' := [(1, .int v93), (0, .ref 115)]) kc_35_137 rfl rfl ev93 rfl (xm_lt ml_35 rfl) ?_
        refine xi_goto (pc' := 119) kc_35_140 rfl ?_
        have A94 := ((eh91.2.1 115 (by decide)).trans A14)
        refine xw_lv (b := [(0, .ref 115), (1, .int v93)]) (lvS_cons (lvS_cons (lvS_nil (show ([1, 0] : List Nat).Nodup by decide)) rfl) rfl) ?_
        exact i2 v93 hh91 (by omega) (fun v e => by have e2 := xl_val (u := u2) A94 rfl e; subst e2; omega) K92 (by omega)
    · intro x1 h b1 gh0 K hm
      obtain ⟨u1, u2, u3, u4, u5, u6, u7, u8, u9, u10, u11, u12, u13, bu1, bu2, bu3, bu4, bu5, bu6, bu7, bu8, bu9, bu10, bu11, bu12, bu13, A14⟩ := xq_115 K.1
      have gh0' := gh0 _ (xl_of A14 rfl)
      refine xi_iload_n (pc' := 180) (x := x1) kc_35_179 rfl rfl ?_
      refine xi_bipush (pc' := 182) (v := 6) kc_35_180 rfl rfl ?_
      by_cases c15 : 6 ≤ x1.toInt
      · refine xi_cmt (pc' := 203) kc_35_182 rfl (xc_ge_t (X := x1.toInt) (Y := 6) rfl (by decide) (by omega)) ?_
        refine xi_iconst (pc' := 204) (v := 0) kc_35_203 rfl rfl ?_
        refine xi_istore_n (pc' := 205) (lv' := [(1, .int 0), (0, .ref 115)]) kc_35_204 rfl rfl (xm_lt ml_35 rfl) ?_
        have zc0 : (0 : Int32).toInt = 0 := by decide
        refine xw_lv (b := [(0, .ref 115), (1, .int 0)]) (lvS_cons (lvS_cons (lvS_nil (show ([1, 0] : List Nat).Nodup by decide)) rfl) rfl) ?_
        exact i4 0 h (by omega) (fun v e => by have e2 := xl_val (u := u2) A14 rfl e; subst e2; omega) K (by omega)
      · refine xi_cmf (pc' := 185) kc_35_182 rfl (xc_ge_f (X := x1.toInt) (Y := 6) rfl (by decide) (by omega)) ?_
        refine xi_aload_n (pc' := 186) (x := 115) kc_35_185 rfl rfl ?_
        refine xi_getfield (pc' := 189) (v := .ref 121) kc_35_186 rfl rfl rfl A14 rfl ?_
        refine xi_iload_n (pc' := 190) (x := x1) kc_35_189 rfl rfl ?_
        refine xi_aload_n (pc' := 191) (x := 115) kc_35_190 rfl rfl ?_
        refine xi_getfield (pc' := 194) (v := .ref 141) kc_35_191 rfl rfl rfl A14 rfl ?_
        refine xi_iload_n (pc' := 195) (x := x1) kc_35_194 rfl rfl ?_
        obtain ⟨y16, A16, hy16, ry16⟩ := xk_arr K.1 xD_141
        obtain ⟨v17, ev17, bv17, dv17⟩ := xj_get hy16 ry16 (i := x1) (by omega) (by omega)
        refine xi_iaload (pc' := 196) (v := v17) kc_35_195 rfl A16 (by decide) rfl (xi_in (by omega) (by rw [hy16]; omega)) ev17 ?_
        obtain ⟨y18, A18, hy18, ry18⟩ := xk_arr K.1 xD_121
        obtain ⟨y19, s19, hy19, ry19⟩ := xj_set (v := v17) hy18 ry18 x1 (by first | omega | decide) (by first | omega | decide)
        refine xi_iastore (pc' := 197) (x' := y19) kc_35_196 rfl A18 rfl (xi_in (by omega) (by rw [hy18]; omega)) s19 (fun hh19 eh19 => ?_)
        have K20 := xk_pa K (xk_wa (by decide +kernel)) xD_121 hy19 ry19 eh19
        obtain ⟨v21, ev21⟩ : ∃ q : Int32, x1 + 1 = q := ⟨_, rfl⟩
        have zv21 : v21.toInt = (x1.toInt + 1) := by rw [← ev21]; exact (xz_add (X := x1.toInt) (Y := 1) rfl (by decide) (by omega) (by omega)).trans (by omega)
        refine xi_iinc (pc' := 200) (x := x1) (v := v21) (lv' := [(1, .int v21), (0, .ref 115)]) kc_35_197 rfl rfl ev21 rfl (xm_lt ml_35 rfl) ?_
        refine xi_goto (pc' := 179) kc_35_200 rfl ?_
        have A22 := ((eh19.2.1 115 (by decide)).trans A14)
        refine xw_lv (b := [(0, .ref 115), (1, .int v21)]) (lvS_cons (lvS_cons (lvS_nil (show ([1, 0] : List Nat).Nodup by decide)) rfl) rfl) ?_
        exact i3 v21 hh19 (by omega) (fun v e => by have e2 := xl_val (u := u2) A22 rfl e; subst e2; omega) K20 (by omega)
    · intro x1 h b1 gh0 K hm
      obtain ⟨u1, u2, u3, u4, u5, u6, u7, u8, u9, u10, u11, u12, u13, bu1, bu2, bu3, bu4, bu5, bu6, bu7, bu8, bu9, bu10, bu11, bu12, bu13, A14⟩ := xq_115 K.1
      have gh0' := gh0 _ (xl_of A14 rfl)
      refine xi_iload_n (pc' := 206) (x := x1) kc_35_205 rfl rfl ?_
      refine xi_bipush (pc' := 208) (v := 12) kc_35_206 rfl rfl ?_
      by_cases c15 : 12 ≤ x1.toInt
      · refine xi_cmt (pc' := 274) kc_35_208 rfl (xc_ge_t (X := x1.toInt) (Y := 12) rfl (by decide) (by omega)) ?_
        refine xi_aload_n (pc' := 275) (x := 115) kc_35_274 rfl rfl ?_
        refine xi_dup (pc' := 276) kc_35_275 rfl rfl ?_
        refine xi_getfield (pc' := 279) (v := .int u2) kc_35_276 rfl rfl rfl A14 rfl ?_
        refine xi_iconst (pc' := 280) (v := 1) kc_35_279 rfl rfl ?_
        obtain ⟨v16, ev16⟩ : ∃ q : Int32, u2 + 1 = q := ⟨_, rfl⟩
        have zv16 : v16.toInt = (u2.toInt + 1) := by rw [← ev16]; exact (xz_add (X := u2.toInt) (Y := 1) rfl (by decide) (by omega) (by omega)).trans (by omega)
        refine xi_iadd (pc' := 281) (v := v16) kc_35_280 rfl ev16 ?_
        refine xi_putfield (pc' := 284) (fs' := [.int u1, .int v16, .ref 116, .ref 117, .ref 118, .ref 119, .ref 120, .ref 121, .ref 122, .ref 123, .ref 124, .ref 125, .ref 126, .ref 127, .ref 128, .ref 129, .int u3, .ref 130, .int u4, .ref 131, .ref 132, .ref 133, .ref 134, .int u5, .ref 135, .ref 136, .ref 137, .ref 138, .ref 139, .ref 140, .ref 141, .ref 142, .int u6, .int u7, .int u8, .ref 143, .ref 144, .ref 145, .ref 146, .ref 147, .ref 148, .int u9, .ref 149, .ref 150, .ref 151, .int u10, .ref 152, .ref 153, .ref 154, .ref 155, .ref 156, .ref 157, .ref 158, .ref 159, .int u11, .ref 160, .int u12, .ref 161, .ref 162, .ref 163, .ref 164, .int u13, .ref 165, .ref 166]) kc_35_281 rfl rfl rfl A14 rfl rfl rfl (Nat.le_of_ble_eq_true rfl) rfl (fun hh18 eh17 => ?_)
        have K19 := xk_pf (k := 1) (v := v16) K (xk_wf (by decide +kernel)) xD_115 A14 rfl (by first | omega | decide) (by first | omega | decide) eh17 rfl
        refine xi_iconst (pc' := 285) (v := 0) kc_35_284 rfl rfl ?_
        refine xi_istore_n (pc' := 286) (lv' := [(1, .int 0), (0, .ref 115)]) kc_35_285 rfl rfl (xm_lt ml_35 rfl) ?_
        have zc0 : (0 : Int32).toInt = 0 := by decide
        refine xw_lv (b := [(0, .ref 115), (1, .int 0)]) (lvS_cons (lvS_cons (lvS_nil (show ([1, 0] : List Nat).Nodup by decide)) rfl) rfl) ?_
        exact i5 0 hh18 (by omega) (fun v e => by have e2 := xl_val (u := v16) eh17.1 rfl e; subst e2; omega) K19 (by omega)
      · refine xi_cmf (pc' := 211) kc_35_208 rfl (xc_ge_f (X := x1.toInt) (Y := 12) rfl (by decide) (by omega)) ?_
        refine xi_aload_n (pc' := 212) (x := 115) kc_35_211 rfl rfl ?_
        refine xi_getfield (pc' := 215) (v := .ref 128) kc_35_212 rfl rfl rfl A14 rfl ?_
        refine xi_iload_n (pc' := 216) (x := x1) kc_35_215 rfl rfl ?_
        refine xi_aload_n (pc' := 217) (x := 115) kc_35_216 rfl rfl ?_
        refine xi_getfield (pc' := 220) (v := .ref 142) kc_35_217 rfl rfl rfl A14 rfl ?_
        refine xi_iload_n (pc' := 221) (x := x1) kc_35_220 rfl rfl ?_
        obtain ⟨y20, A20, hy20, ry20⟩ := xk_arr K.1 xD_142
        obtain ⟨v21, ev21, bv21, dv21⟩ := xj_get hy20 ry20 (i := x1) (by omega) (by omega)
        refine xi_iaload (pc' := 222) (v := v21) kc_35_221 rfl A20 (by decide) rfl (xi_in (by omega) (by rw [hy20]; omega)) ev21 ?_
        obtain ⟨y22, A22, hy22, ry22⟩ := xk_arr K.1 xD_128
        obtain ⟨y23, s23, hy23, ry23⟩ := xj_set (v := v21) hy22 ry22 x1 (by first | omega | decide) (by first | omega | decide)
        refine xi_iastore (pc' := 223) (x' := y23) kc_35_222 rfl A22 rfl (xi_in (by omega) (by rw [hy22]; omega)) s23 (fun hh23 eh23 => ?_)
        have K24 := xk_pa K (xk_wa (by decide +kernel)) xD_128 hy23 ry23 eh23
        refine xi_aload_n (pc' := 224) (x := 115) kc_35_223 rfl rfl ?_
        have A25 := ((eh23.2.1 115 (by decide)).trans A14)
        refine xi_getfield (pc' := 227) (v := .ref 129) kc_35_224 rfl rfl rfl A25 rfl ?_
        refine xi_iload_n (pc' := 228) (x := x1) kc_35_227 rfl rfl ?_
        refine xi_dup2 (pc' := 229) kc_35_228 rfl ⟨rfl, rfl⟩ ?_
        obtain ⟨y26, A26, hy26, ry26⟩ := xk_arr K24.1 xD_129
        obtain ⟨v27, ev27, bv27, dv27⟩ := xj_get hy26 ry26 (i := x1) (by omega) (by omega)
        refine xi_iaload (pc' := 230) (v := v27) kc_35_229 rfl A26 (by decide) rfl (xi_in (by omega) (by rw [hy26]; omega)) ev27 ?_
        refine xi_aload_n (pc' := 231) (x := 115) kc_35_230 rfl rfl ?_
        refine xi_getfield (pc' := 234) (v := .ref 128) kc_35_231 rfl rfl rfl A25 rfl ?_
        refine xi_iload_n (pc' := 235) (x := x1) kc_35_234 rfl rfl ?_
        obtain ⟨v28, ev28, bv28, dv28⟩ := xj_get hy23 ry23 (i := x1) (by omega) (by omega)
        refine xi_iaload (pc' := 236) (v := v28) kc_35_235 rfl eh23.1 (by decide) rfl (xi_in (by omega) (by rw [hy23]; omega)) ev28 ?_
        refine xi_bipush (pc' := 238) (v := 50) kc_35_236 rfl rfl ?_
        by_cases c29 : v28.toInt < 50
        · refine xi_cmt (pc' := 245) kc_35_238 rfl (xc_lt_t (X := v28.toInt) (Y := 50) rfl (by decide) (by omega)) ?_
          refine xi_iconst (pc' := 246) (v := 0) kc_35_245 rfl rfl ?_
          obtain ⟨v30, ev30⟩ : ∃ q : Int32, v27 + 0 = q := ⟨_, rfl⟩
          have zv30 : v30.toInt = v27.toInt := by rw [← ev30]; exact (xz_add (X := v27.toInt) (Y := 0) rfl (by decide) (by omega) (by omega)).trans (by omega)
          refine xi_iadd (pc' := 247) (v := v30) kc_35_246 rfl ev30 ?_
          obtain ⟨y31, s31, hy31, ry31⟩ := xj_set (v := v30) hy26 ry26 x1 (by first | omega | decide) (by first | omega | decide)
          refine xi_iastore (pc' := 248) (x' := y31) kc_35_247 rfl A26 rfl (xi_in (by omega) (by rw [hy26]; omega)) s31 (fun hh31 eh31 => ?_)
          have K32 := xk_pa K24 (xk_wa (by decide +kernel)) xD_129 hy31 ry31 eh31
          refine xi_aload_n (pc' := 249) (x := 115) kc_35_248 rfl rfl ?_
          have A33 := ((eh31.2.1 115 (by decide)).trans A25)
          refine xi_getfield (pc' := 252) (v := .ref 130) kc_35_249 rfl rfl rfl A33 rfl ?_
          refine xi_bipush (pc' := 254) (v := 12) kc_35_252 rfl rfl ?_
          refine xi_aload_n (pc' := 255) (x := 115) kc_35_254 rfl rfl ?_
          refine xi_getfield (pc' := 258) (v := .int u2) kc_35_255 rfl rfl rfl A33 rfl ?_
          obtain ⟨v34, ev34⟩ : ∃ q : Int32, 12 * u2 = q := ⟨_, rfl⟩
          have zv34 : v34.toInt = (12) * u2.toInt := by rw [← ev34]; exact (xz_mul (X := 12) (Y := u2.toInt) (by decide) rfl (by omega) (by omega)).trans (by omega)
          refine xi_imul (pc' := 259) (v := v34) kc_35_258 rfl ev34 ?_
          refine xi_iload_n (pc' := 260) (x := x1) kc_35_259 rfl rfl ?_
          obtain ⟨v35, ev35⟩ : ∃ q : Int32, v34 + x1 = q := ⟨_, rfl⟩
          have zv35 : v35.toInt = ((12) * u2.toInt + x1.toInt) := by rw [← ev35]; exact (xz_add (X := (12) * u2.toInt) (Y := x1.toInt) zv34 rfl (by omega) (by omega)).trans (by omega)
          refine xi_iadd (pc' := 261) (v := v35) kc_35_260 rfl ev35 ?_
          refine xi_aload_n (pc' := 262) (x := 115) kc_35_261 rfl rfl ?_
          refine xi_getfield (pc' := 265) (v := .ref 128) kc_35_262 rfl rfl rfl A33 rfl ?_
          refine xi_iload_n (pc' := 266) (x := x1) kc_35_265 rfl rfl ?_
          have A36 := ((eh31.2.1 128 (by decide)).trans eh23.1)
          refine xi_iaload (pc' := 267) (v := v28) kc_35_266 rfl A36 (by decide) rfl (xi_in (by omega) (by rw [hy23]; omega)) ev28 ?_
          obtain ⟨y37, A37, hy37, ry37⟩ := xk_arr K32.1 xD_130
          obtain ⟨y38, s38, hy38, ry38⟩ := xj_set (v := v28) hy37 ry37 v35 (by first | omega | decide) (by first | omega | decide)
          refine xi_iastore (pc' := 268) (x' := y38) kc_35_267 rfl A37 rfl (xi_in (by rw [zv35]; omega) (by rw [hy37]; rw [zv35]; omega)) s38 (fun hh38 eh38 => ?_)
          have K39 := xk_pa K32 (xk_wa (by decide +kernel)) xD_130 hy38 ry38 eh38
          obtain ⟨v40, ev40⟩ : ∃ q : Int32, x1 + 1 = q := ⟨_, rfl⟩
          have zv40 : v40.toInt = (x1.toInt + 1) := by rw [← ev40]; exact (xz_add (X := x1.toInt) (Y := 1) rfl (by decide) (by omega) (by omega)).trans (by omega)
          refine xi_iinc (pc' := 271) (x := x1) (v := v40) (lv' := [(1, .int v40), (0, .ref 115)]) kc_35_268 rfl rfl ev40 rfl (xm_lt ml_35 rfl) ?_
          refine xi_goto (pc' := 205) kc_35_271 rfl ?_
          have A41 := ((eh38.2.1 115 (by decide)).trans A33)
          refine xw_lv (b := [(0, .ref 115), (1, .int v40)]) (lvS_cons (lvS_cons (lvS_nil (show ([1, 0] : List Nat).Nodup by decide)) rfl) rfl) ?_
          exact i4 v40 hh38 (by omega) (fun v e => by have e2 := xl_val (u := u2) A41 rfl e; subst e2; omega) K39 (by omega)
        · refine xi_cmf (pc' := 241) kc_35_238 rfl (xc_lt_f (X := v28.toInt) (Y := 50) rfl (by decide) (by omega)) ?_
          refine xi_iconst (pc' := 242) (v := 1) kc_35_241 rfl rfl ?_
          refine xi_goto (pc' := 246) kc_35_242 rfl ?_
          obtain ⟨v42, ev42⟩ : ∃ q : Int32, (v27 : Int32) + 1 = q := ⟨_, rfl⟩
          have rv42 := xc_rng v42
          refine xi_iadd (pc' := 247) (v := v42) kc_35_246 rfl ev42 ?_
          obtain ⟨y43, s43, hy43, ry43⟩ := xj_set (v := v42) hy26 ry26 x1 (by first | omega | decide) (by first | omega | decide)
          refine xi_iastore (pc' := 248) (x' := y43) kc_35_247 rfl A26 rfl (xi_in (by omega) (by rw [hy26]; omega)) s43 (fun hh43 eh43 => ?_)
          have K44 := xk_pa K24 (xk_wa (by decide +kernel)) xD_129 hy43 ry43 eh43
          refine xi_aload_n (pc' := 249) (x := 115) kc_35_248 rfl rfl ?_
          have A45 := ((eh43.2.1 115 (by decide)).trans A25)
          refine xi_getfield (pc' := 252) (v := .ref 130) kc_35_249 rfl rfl rfl A45 rfl ?_
          refine xi_bipush (pc' := 254) (v := 12) kc_35_252 rfl rfl ?_
          refine xi_aload_n (pc' := 255) (x := 115) kc_35_254 rfl rfl ?_
          refine xi_getfield (pc' := 258) (v := .int u2) kc_35_255 rfl rfl rfl A45 rfl ?_
          obtain ⟨v46, ev46⟩ : ∃ q : Int32, 12 * u2 = q := ⟨_, rfl⟩
          have zv46 : v46.toInt = (12) * u2.toInt := by rw [← ev46]; exact (xz_mul (X := 12) (Y := u2.toInt) (by decide) rfl (by omega) (by omega)).trans (by omega)
          refine xi_imul (pc' := 259) (v := v46) kc_35_258 rfl ev46 ?_
          refine xi_iload_n (pc' := 260) (x := x1) kc_35_259 rfl rfl ?_
          obtain ⟨v47, ev47⟩ : ∃ q : Int32, v46 + x1 = q := ⟨_, rfl⟩
          have zv47 : v47.toInt = ((12) * u2.toInt + x1.toInt) := by rw [← ev47]; exact (xz_add (X := (12) * u2.toInt) (Y := x1.toInt) zv46 rfl (by omega) (by omega)).trans (by omega)
          refine xi_iadd (pc' := 261) (v := v47) kc_35_260 rfl ev47 ?_
          refine xi_aload_n (pc' := 262) (x := 115) kc_35_261 rfl rfl ?_
          refine xi_getfield (pc' := 265) (v := .ref 128) kc_35_262 rfl rfl rfl A45 rfl ?_
          refine xi_iload_n (pc' := 266) (x := x1) kc_35_265 rfl rfl ?_
          have A48 := ((eh43.2.1 128 (by decide)).trans eh23.1)
          refine xi_iaload (pc' := 267) (v := v28) kc_35_266 rfl A48 (by decide) rfl (xi_in (by omega) (by rw [hy23]; omega)) ev28 ?_
          obtain ⟨y49, A49, hy49, ry49⟩ := xk_arr K44.1 xD_130
          obtain ⟨y50, s50, hy50, ry50⟩ := xj_set (v := v28) hy49 ry49 v47 (by first | omega | decide) (by first | omega | decide)
          refine xi_iastore (pc' := 268) (x' := y50) kc_35_267 rfl A49 rfl (xi_in (by rw [zv47]; omega) (by rw [hy49]; rw [zv47]; omega)) s50 (fun hh50 eh50 => ?_)
          have K51 := xk_pa K44 (xk_wa (by decide +kernel)) xD_130 hy50 ry50 eh50
          obtain ⟨v52, ev52⟩ : ∃ q : Int32, x1 + 1 = q := ⟨_, rfl⟩
          have zv52 : v52.toInt = (x1.toInt + 1) := by rw [← ev52]; exact (xz_add (X := x1.toInt) (Y := 1) rfl (by decide) (by omega) (by omega)).trans (by omega)
          refine xi_iinc (pc' := 271) (x := x1) (v := v52) (lv' := [(1, .int v52), (0, .ref 115)]) kc_35_268 rfl rfl ev52 rfl (xm_lt ml_35 rfl) ?_
          refine xi_goto (pc' := 205) kc_35_271 rfl ?_
          have A53 := ((eh50.2.1 115 (by decide)).trans A45)
          refine xw_lv (b := [(0, .ref 115), (1, .int v52)]) (lvS_cons (lvS_cons (lvS_nil (show ([1, 0] : List Nat).Nodup by decide)) rfl) rfl) ?_
          exact i4 v52 hh50 (by omega) (fun v e => by have e2 := xl_val (u := u2) A53 rfl e; subst e2; omega) K51 (by omega)
    · intro x1 h b1 gh0 K hm
      obtain ⟨u1, u2, u3, u4, u5, u6, u7, u8, u9, u10, u11, u12, u13, bu1, bu2, bu3, bu4, bu5, bu6, bu7, bu8, bu9, bu10, bu11, bu12, bu13, A14⟩ := xq_115 K.1
      have gh0' := gh0 _ (xl_of A14 rfl)
      refine xi_iload_n (pc' := 287) (x := x1) kc_35_286 rfl rfl ?_
      refine xi_aload_n (pc' := 288) (x := 115) kc_35_287 rfl rfl ?_
      refine xi_getfield (pc' := 291) (v := .int u8) kc_35_288 rfl rfl rfl A14 rfl ?_
      by_cases c15 : u8.toInt ≤ x1.toInt
      · refine xi_cmt (pc' := 343) kc_35_291 rfl (xc_ge_t (X := x1.toInt) (Y := u8.toInt) rfl rfl (by omega)) ?_
        refine xi_aload_n (pc' := 344) (x := 115) kc_35_343 rfl rfl ?_
        refine xi_iconst (pc' := 345) (v := 0) kc_35_344 rfl rfl ?_
        refine xi_putfield (pc' := 348) (fs' := [.int u1, .int u2, .ref 116, .ref 117, .ref 118, .ref 119, .ref 120, .ref 121, .ref 122, .ref 123, .ref 124, .ref 125, .ref 126, .ref 127, .ref 128, .ref 129, .int u3, .ref 130, .int u4, .ref 131, .ref 132, .ref 133, .ref 134, .int u5, .ref 135, .ref 136, .ref 137, .ref 138, .ref 139, .ref 140, .ref 141, .ref 142, .int u6, .int u7, .int u8, .ref 143, .ref 144, .ref 145, .ref 146, .ref 147, .ref 148, .int 0, .ref 149, .ref 150, .ref 151, .int u10, .ref 152, .ref 153, .ref 154, .ref 155, .ref 156, .ref 157, .ref 158, .ref 159, .int u11, .ref 160, .int u12, .ref 161, .ref 162, .ref 163, .ref 164, .int u13, .ref 165, .ref 166]) kc_35_345 rfl rfl rfl A14 rfl rfl rfl (Nat.le_of_ble_eq_true rfl) rfl (fun hh17 eh16 => ?_)
        have K18 := xk_pf (k := 41) (v := 0) K (xk_wf (by decide +kernel)) xD_115 A14 rfl (by first | omega | decide) (by first | omega | decide) eh16 rfl
        refine xi_return kc_35_348 mr_35 ?_
        exact kk hh17 (fun v e => by have e2 := xl_val (u := u2) eh16.1 rfl e; subst e2; omega) K18
      · refine xi_cmf (pc' := 294) kc_35_291 rfl (xc_ge_f (X := x1.toInt) (Y := u8.toInt) rfl rfl (by omega)) ?_
        refine xi_aload_n (pc' := 295) (x := 115) kc_35_294 rfl rfl ?_
        refine xi_getfield (pc' := 298) (v := .ref 147) kc_35_295 rfl rfl rfl A14 rfl ?_
        refine xi_iload_n (pc' := 299) (x := x1) kc_35_298 rfl rfl ?_
        obtain ⟨y19, A19, hy19, ry19⟩ := xk_arr K.1 xD_147
        obtain ⟨v20, ev20, bv20, dv20⟩ := xj_get hy19 ry19 (i := x1) (by omega) (by omega)
        refine xi_iaload (pc' := 300) (v := v20) kc_35_299 rfl A19 (by decide) rfl (xi_in (by omega) (by rw [hy19]; omega)) ev20 ?_
        refine xi_aload_n (pc' := 301) (x := 115) kc_35_300 rfl rfl ?_
        refine xi_getfield (pc' := 304) (v := .int u2) kc_35_301 rfl rfl rfl A14 rfl ?_
        by_cases c21 : v20.toInt = u2.toInt
        · refine xi_cmf (pc' := 307) kc_35_304 rfl (xc_ne_f (X := v20.toInt) (Y := u2.toInt) rfl rfl (by omega)) ?_
          refine xi_aload_n (pc' := 308) (x := 115) kc_35_307 rfl rfl ?_
          refine xi_aload_n (pc' := 309) (x := 115) kc_35_308 rfl rfl ?_
          refine xi_getfield (pc' := 312) (v := .ref 143) kc_35_309 rfl rfl rfl A14 rfl ?_
          refine xi_iload_n (pc' := 313) (x := x1) kc_35_312 rfl rfl ?_
          obtain ⟨y22, A22, hy22, ry22⟩ := xk_arr K.1 xD_143
          obtain ⟨v23, ev23, bv23, dv23⟩ := xj_get hy22 ry22 (i := x1) (by omega) (by omega)
          refine xi_iaload (pc' := 314) (v := v23) kc_35_313 rfl A22 (by decide) rfl (xi_in (by omega) (by rw [hy22]; omega)) ev23 ?_
          refine xi_aload_n (pc' := 315) (x := 115) kc_35_314 rfl rfl ?_
          refine xi_getfield (pc' := 318) (v := .ref 144) kc_35_315 rfl rfl rfl A14 rfl ?_
          refine xi_iload_n (pc' := 319) (x := x1) kc_35_318 rfl rfl ?_
          obtain ⟨y24, A24, hy24, ry24⟩ := xk_arr K.1 xD_144
          obtain ⟨v25, ev25, bv25, dv25⟩ := xj_get hy24 ry24 (i := x1) (by omega) (by omega)
          refine xi_iaload (pc' := 320) (v := v25) kc_35_319 rfl A24 (by decide) rfl (xi_in (by omega) (by rw [hy24]; omega)) ev25 ?_
          by_cases c26 : v25.toInt = 0
          · refine xi_iff (pc' := 323) kc_35_320 rfl (xc_ne_f (X := v25.toInt) (Y := 0) rfl (by decide) (by omega)) ?_
            refine xi_iconst (pc' := 324) (v := 4) kc_35_323 rfl rfl ?_
            refine xi_goto (pc' := 328) kc_35_324 rfl ?_
            refine xi_aload_n (pc' := 329) (x := 115) kc_35_328 rfl rfl ?_
            refine xi_getfield (pc' := 332) (v := .ref 148) kc_35_329 rfl rfl rfl A14 rfl ?_
            refine xi_iload_n (pc' := 333) (x := x1) kc_35_332 rfl rfl ?_
            obtain ⟨y27, A27, hy27, ry27⟩ := xk_arr K.1 xD_148
            obtain ⟨v28, ev28, bv28, dv28⟩ := xj_get hy27 ry27 (i := x1) (by omega) (by omega)
            refine xi_iaload (pc' := 334) (v := v28) kc_35_333 rfl A27 (by decide) rfl (xi_in (by omega) (by rw [hy27]; omega)) ev28 ?_
            refine xi_virtual (mj := 14) (as := [.int v23, .int 4, .int v28]) (st1 := []) (lv0 := [(0, .ref 115), (1, .int v23), (2, .int 4), (3, .int v28)]) kc_35_334 rfl rfl rfl rfl rfl A14 (Nat.le_of_ble_eq_true rfl) (hJ _ _ _ _ (by decide)) (xm_le ml_14 rfl) rfl ?_
            refine xi_aload_n (pc' := 1) (x := 115) kc_14_0 rfl rfl ?_
            refine xi_getfield (pc' := 4) (v := .ref 116) kc_14_1 rfl rfl rfl A14 rfl ?_
            refine xi_iload_n (pc' := 5) (x := v23) kc_14_4 rfl rfl ?_
            refine xi_iload_n (pc' := 6) (x := 4) kc_14_5 rfl rfl ?_
            refine xi_ift (pc' := 13) kc_14_6 rfl rfl ?_
            refine xi_aload_n (pc' := 14) (x := 115) kc_14_13 rfl rfl ?_
            refine xi_getfield (pc' := 17) (v := .ref 116) kc_14_14 rfl rfl rfl A14 rfl ?_
            refine xi_iload_n (pc' := 18) (x := v23) kc_14_17 rfl rfl ?_
            obtain ⟨y29, A29, hy29, ry29⟩ := xk_arr K.1 xD_116
            obtain ⟨v30, ev30, bv30, dv30⟩ := xj_get hy29 ry29 (i := v23) (by omega) (by omega)
            refine xi_iaload (pc' := 19) (v := v30) kc_14_18 rfl A29 (by decide) rfl (xi_in (by omega) (by rw [hy29]; omega)) ev30 ?_
            obtain ⟨y31, s31, hy31, ry31⟩ := xj_set (v := v30) hy29 ry29 v23 (by first | omega | decide) (by first | omega | decide)
            refine xi_iastore (pc' := 20) (x' := y31) kc_14_19 rfl A29 rfl (xi_in (by omega) (by rw [hy29]; omega)) s31 (fun hh31 eh31 => ?_)
            have K32 := xk_pa K (xk_wa (by decide +kernel)) xD_116 hy31 ry31 eh31
            refine xi_aload_n (pc' := 21) (x := 115) kc_14_20 rfl rfl ?_
            have A33 := ((eh31.2.1 115 (by decide)).trans A14)
            refine xi_getfield (pc' := 24) (v := .ref 117) kc_14_21 rfl rfl rfl A33 rfl ?_
            refine xi_iload_n (pc' := 25) (x := v23) kc_14_24 rfl rfl ?_
            refine xi_iload_n (pc' := 26) (x := 4) kc_14_25 rfl rfl ?_
            refine xi_iconst (pc' := 27) (v := 1) kc_14_26 rfl rfl ?_
            refine xi_cmt (pc' := 34) kc_14_27 rfl rfl ?_
            refine xi_aload_n (pc' := 35) (x := 115) kc_14_34 rfl rfl ?_
            refine xi_getfield (pc' := 38) (v := .ref 117) kc_14_35 rfl rfl rfl A33 rfl ?_
            refine xi_iload_n (pc' := 39) (x := v23) kc_14_38 rfl rfl ?_
            obtain ⟨y34, A34, hy34, ry34⟩ := xk_arr K32.1 xD_117
            obtain ⟨v35, ev35, bv35, dv35⟩ := xj_get hy34 ry34 (i := v23) (by omega) (by omega)
            refine xi_iaload (pc' := 40) (v := v35) kc_14_39 rfl A34 (by decide) rfl (xi_in (by omega) (by rw [hy34]; omega)) ev35 ?_
            obtain ⟨y36, s36, hy36, ry36⟩ := xj_set (v := v35) hy34 ry34 v23 (by first | omega | decide) (by first | omega | decide)
            refine xi_iastore (pc' := 41) (x' := y36) kc_14_40 rfl A34 rfl (xi_in (by omega) (by rw [hy34]; omega)) s36 (fun hh36 eh36 => ?_)
            have K37 := xk_pa K32 (xk_wa (by decide +kernel)) xD_117 hy36 ry36 eh36
            refine xi_aload_n (pc' := 42) (x := 115) kc_14_41 rfl rfl ?_
            have A38 := ((eh36.2.1 115 (by decide)).trans A33)
            refine xi_getfield (pc' := 45) (v := .ref 118) kc_14_42 rfl rfl rfl A38 rfl ?_
            refine xi_iload_n (pc' := 46) (x := v23) kc_14_45 rfl rfl ?_
            refine xi_iload_n (pc' := 47) (x := 4) kc_14_46 rfl rfl ?_
            refine xi_iconst (pc' := 48) (v := 2) kc_14_47 rfl rfl ?_
            refine xi_cmt (pc' := 55) kc_14_48 rfl rfl ?_
            refine xi_aload_n (pc' := 56) (x := 115) kc_14_55 rfl rfl ?_
            refine xi_getfield (pc' := 59) (v := .ref 118) kc_14_56 rfl rfl rfl A38 rfl ?_
            refine xi_iload_n (pc' := 60) (x := v23) kc_14_59 rfl rfl ?_
            obtain ⟨y39, A39, hy39, ry39⟩ := xk_arr K37.1 xD_118
            obtain ⟨v40, ev40, bv40, dv40⟩ := xj_get hy39 ry39 (i := v23) (by omega) (by omega)
            refine xi_iaload (pc' := 61) (v := v40) kc_14_60 rfl A39 (by decide) rfl (xi_in (by omega) (by rw [hy39]; omega)) ev40 ?_
            obtain ⟨y41, s41, hy41, ry41⟩ := xj_set (v := v40) hy39 ry39 v23 (by first | omega | decide) (by first | omega | decide)
            refine xi_iastore (pc' := 62) (x' := y41) kc_14_61 rfl A39 rfl (xi_in (by omega) (by rw [hy39]; omega)) s41 (fun hh41 eh41 => ?_)
            have K42 := xk_pa K37 (xk_wa (by decide +kernel)) xD_118 hy41 ry41 eh41
            refine xi_aload_n (pc' := 63) (x := 115) kc_14_62 rfl rfl ?_
            have A43 := ((eh41.2.1 115 (by decide)).trans A38)
            refine xi_getfield (pc' := 66) (v := .ref 119) kc_14_63 rfl rfl rfl A43 rfl ?_
            refine xi_iload_n (pc' := 67) (x := v23) kc_14_66 rfl rfl ?_
            refine xi_iload_n (pc' := 68) (x := 4) kc_14_67 rfl rfl ?_
            refine xi_iconst (pc' := 69) (v := 3) kc_14_68 rfl rfl ?_
            refine xi_cmt (pc' := 76) kc_14_69 rfl rfl ?_
            refine xi_aload_n (pc' := 77) (x := 115) kc_14_76 rfl rfl ?_
            refine xi_getfield (pc' := 80) (v := .ref 119) kc_14_77 rfl rfl rfl A43 rfl ?_
            refine xi_iload_n (pc' := 81) (x := v23) kc_14_80 rfl rfl ?_
            obtain ⟨y44, A44, hy44, ry44⟩ := xk_arr K42.1 xD_119
            obtain ⟨v45, ev45, bv45, dv45⟩ := xj_get hy44 ry44 (i := v23) (by omega) (by omega)
            refine xi_iaload (pc' := 82) (v := v45) kc_14_81 rfl A44 (by decide) rfl (xi_in (by omega) (by rw [hy44]; omega)) ev45 ?_
            obtain ⟨y46, s46, hy46, ry46⟩ := xj_set (v := v45) hy44 ry44 v23 (by first | omega | decide) (by first | omega | decide)
            refine xi_iastore (pc' := 83) (x' := y46) kc_14_82 rfl A44 rfl (xi_in (by omega) (by rw [hy44]; omega)) s46 (fun hh46 eh46 => ?_)
            have K47 := xk_pa K42 (xk_wa (by decide +kernel)) xD_119 hy46 ry46 eh46
            refine xi_aload_n (pc' := 84) (x := 115) kc_14_83 rfl rfl ?_
            have A48 := ((eh46.2.1 115 (by decide)).trans A43)
            refine xi_getfield (pc' := 87) (v := .ref 120) kc_14_84 rfl rfl rfl A48 rfl ?_
            refine xi_iload_n (pc' := 88) (x := v23) kc_14_87 rfl rfl ?_
            refine xi_iload_n (pc' := 89) (x := 4) kc_14_88 rfl rfl ?_
            refine xi_iconst (pc' := 90) (v := 4) kc_14_89 rfl rfl ?_
            refine xi_cmf (pc' := 93) kc_14_90 rfl rfl ?_
            refine xi_iload_n (pc' := 94) (x := v28) kc_14_93 rfl rfl ?_
            refine xi_goto (pc' := 103) kc_14_94 rfl ?_
            obtain ⟨y49, A49, hy49, ry49⟩ := xk_arr K47.1 xD_120
            obtain ⟨y50, s50, hy50, ry50⟩ := xj_set (v := v28) hy49 ry49 v23 (by first | omega | decide) (by first | omega | decide)
            refine xi_iastore (pc' := 104) (x' := y50) kc_14_103 rfl A49 rfl (xi_in (by omega) (by rw [hy49]; omega)) s50 (fun hh50 eh50 => ?_)
            have K51 := xk_pa K47 (xk_wa (by decide +kernel)) xD_120 hy50 ry50 eh50
            refine xi_aload_n (pc' := 105) (x := 115) kc_14_104 rfl rfl ?_
            have A52 := ((eh50.2.1 115 (by decide)).trans A48)
            refine xi_getfield (pc' := 108) (v := .ref 121) kc_14_105 rfl rfl rfl A52 rfl ?_
            refine xi_iload_n (pc' := 109) (x := v23) kc_14_108 rfl rfl ?_
            refine xi_iload_n (pc' := 110) (x := 4) kc_14_109 rfl rfl ?_
            refine xi_iconst (pc' := 111) (v := 5) kc_14_110 rfl rfl ?_
            refine xi_cmt (pc' := 118) kc_14_111 rfl rfl ?_
            refine xi_aload_n (pc' := 119) (x := 115) kc_14_118 rfl rfl ?_
            refine xi_getfield (pc' := 122) (v := .ref 121) kc_14_119 rfl rfl rfl A52 rfl ?_
            refine xi_iload_n (pc' := 123) (x := v23) kc_14_122 rfl rfl ?_
            obtain ⟨y53, A53, hy53, ry53⟩ := xk_arr K51.1 xD_121
            obtain ⟨v54, ev54, bv54, dv54⟩ := xj_get hy53 ry53 (i := v23) (by omega) (by omega)
            refine xi_iaload (pc' := 124) (v := v54) kc_14_123 rfl A53 (by decide) rfl (xi_in (by omega) (by rw [hy53]; omega)) ev54 ?_
            obtain ⟨y55, s55, hy55, ry55⟩ := xj_set (v := v54) hy53 ry53 v23 (by first | omega | decide) (by first | omega | decide)
            refine xi_iastore (pc' := 125) (x' := y55) kc_14_124 rfl A53 rfl (xi_in (by omega) (by rw [hy53]; omega)) s55 (fun hh55 eh55 => ?_)
            have K56 := xk_pa K51 (xk_wa (by decide +kernel)) xD_121 hy55 ry55 eh55
            refine xi_aload_n (pc' := 126) (x := 115) kc_14_125 rfl rfl ?_
            refine xi_iconst (pc' := 127) (v := 0) kc_14_126 rfl rfl ?_
            have A57 := ((eh55.2.1 115 (by decide)).trans A52)
            refine xi_putfield (pc' := 130) (fs' := [.int u1, .int u2, .ref 116, .ref 117, .ref 118, .ref 119, .ref 120, .ref 121, .ref 122, .ref 123, .ref 124, .ref 125, .ref 126, .ref 127, .ref 128, .ref 129, .int u3, .ref 130, .int u4, .ref 131, .ref 132, .ref 133, .ref 134, .int u5, .ref 135, .ref 136, .ref 137, .ref 138, .ref 139, .ref 140, .ref 141, .ref 142, .int u6, .int u7, .int u8, .ref 143, .ref 144, .ref 145, .ref 146, .ref 147, .ref 148, .int 0, .ref 149, .ref 150, .ref 151, .int u10, .ref 152, .ref 153, .ref 154, .ref 155, .ref 156, .ref 157, .ref 158, .ref 159, .int u11, .ref 160, .int u12, .ref 161, .ref 162, .ref 163, .ref 164, .int u13, .ref 165, .ref 166]) kc_14_127 rfl rfl rfl A57 rfl rfl rfl (Nat.le_of_ble_eq_true rfl) rfl (fun hh59 eh58 => ?_)
            have K60 := xk_pf (k := 41) (v := 0) K56 (xk_wf (by decide +kernel)) xD_115 A57 rfl (by first | omega | decide) (by first | omega | decide) eh58 rfl
            refine xi_return kc_14_130 mr_14 ?_
            show xw J ov (d + 5) 35 (337, [(0, .ref 115), (1, .int x1)], [], hh59) _
            obtain ⟨v61, ev61⟩ : ∃ q : Int32, x1 + 1 = q := ⟨_, rfl⟩
            have zv61 : v61.toInt = (x1.toInt + 1) := by rw [← ev61]; exact (xz_add (X := x1.toInt) (Y := 1) rfl (by decide) (by omega) (by omega)).trans (by omega)
            refine xi_iinc (pc' := 340) (x := x1) (v := v61) (lv' := [(1, .int v61), (0, .ref 115)]) kc_35_337 rfl rfl ev61 rfl (xm_lt ml_35 rfl) ?_
            refine xi_goto (pc' := 286) kc_35_340 rfl ?_
            refine xw_lv (b := [(0, .ref 115), (1, .int v61)]) (lvS_cons (lvS_cons (lvS_nil (show ([1, 0] : List Nat).Nodup by decide)) rfl) rfl) ?_
            exact i5 v61 hh59 (by omega) (fun v e => by have e2 := xl_val (u := u2) eh58.1 rfl e; subst e2; omega) K60 (by omega)
          · refine xi_ift (pc' := 327) kc_35_320 rfl (xc_ne_t (X := v25.toInt) (Y := 0) rfl (by decide) (by omega)) ?_
            refine xi_iconst (pc' := 328) (v := 2) kc_35_327 rfl rfl ?_
            refine xi_aload_n (pc' := 329) (x := 115) kc_35_328 rfl rfl ?_
            refine xi_getfield (pc' := 332) (v := .ref 148) kc_35_329 rfl rfl rfl A14 rfl ?_
            refine xi_iload_n (pc' := 333) (x := x1) kc_35_332 rfl rfl ?_
            obtain ⟨y62, A62, hy62, ry62⟩ := xk_arr K.1 xD_148
            obtain ⟨v63, ev63, bv63, dv63⟩ := xj_get hy62 ry62 (i := x1) (by omega) (by omega)
            refine xi_iaload (pc' := 334) (v := v63) kc_35_333 rfl A62 (by decide) rfl (xi_in (by omega) (by rw [hy62]; omega)) ev63 ?_
            refine xi_virtual (mj := 14) (as := [.int v23, .int 2, .int v63]) (st1 := []) (lv0 := [(0, .ref 115), (1, .int v23), (2, .int 2), (3, .int v63)]) kc_35_334 rfl rfl rfl rfl rfl A14 (Nat.le_of_ble_eq_true rfl) (hJ _ _ _ _ (by decide)) (xm_le ml_14 rfl) rfl ?_
            refine xi_aload_n (pc' := 1) (x := 115) kc_14_0 rfl rfl ?_
            refine xi_getfield (pc' := 4) (v := .ref 116) kc_14_1 rfl rfl rfl A14 rfl ?_
            refine xi_iload_n (pc' := 5) (x := v23) kc_14_4 rfl rfl ?_
            refine xi_iload_n (pc' := 6) (x := 2) kc_14_5 rfl rfl ?_
            refine xi_ift (pc' := 13) kc_14_6 rfl rfl ?_
            refine xi_aload_n (pc' := 14) (x := 115) kc_14_13 rfl rfl ?_
            refine xi_getfield (pc' := 17) (v := .ref 116) kc_14_14 rfl rfl rfl A14 rfl ?_
            refine xi_iload_n (pc' := 18) (x := v23) kc_14_17 rfl rfl ?_
            obtain ⟨y64, A64, hy64, ry64⟩ := xk_arr K.1 xD_116
            obtain ⟨v65, ev65, bv65, dv65⟩ := xj_get hy64 ry64 (i := v23) (by omega) (by omega)
            refine xi_iaload (pc' := 19) (v := v65) kc_14_18 rfl A64 (by decide) rfl (xi_in (by omega) (by rw [hy64]; omega)) ev65 ?_
            obtain ⟨y66, s66, hy66, ry66⟩ := xj_set (v := v65) hy64 ry64 v23 (by first | omega | decide) (by first | omega | decide)
            refine xi_iastore (pc' := 20) (x' := y66) kc_14_19 rfl A64 rfl (xi_in (by omega) (by rw [hy64]; omega)) s66 (fun hh66 eh66 => ?_)
            have K67 := xk_pa K (xk_wa (by decide +kernel)) xD_116 hy66 ry66 eh66
            refine xi_aload_n (pc' := 21) (x := 115) kc_14_20 rfl rfl ?_
            have A68 := ((eh66.2.1 115 (by decide)).trans A14)
            refine xi_getfield (pc' := 24) (v := .ref 117) kc_14_21 rfl rfl rfl A68 rfl ?_
            refine xi_iload_n (pc' := 25) (x := v23) kc_14_24 rfl rfl ?_
            refine xi_iload_n (pc' := 26) (x := 2) kc_14_25 rfl rfl ?_
            refine xi_iconst (pc' := 27) (v := 1) kc_14_26 rfl rfl ?_
            refine xi_cmt (pc' := 34) kc_14_27 rfl rfl ?_
            refine xi_aload_n (pc' := 35) (x := 115) kc_14_34 rfl rfl ?_
            refine xi_getfield (pc' := 38) (v := .ref 117) kc_14_35 rfl rfl rfl A68 rfl ?_
            refine xi_iload_n (pc' := 39) (x := v23) kc_14_38 rfl rfl ?_
            obtain ⟨y69, A69, hy69, ry69⟩ := xk_arr K67.1 xD_117
            obtain ⟨v70, ev70, bv70, dv70⟩ := xj_get hy69 ry69 (i := v23) (by omega) (by omega)
            refine xi_iaload (pc' := 40) (v := v70) kc_14_39 rfl A69 (by decide) rfl (xi_in (by omega) (by rw [hy69]; omega)) ev70 ?_
            obtain ⟨y71, s71, hy71, ry71⟩ := xj_set (v := v70) hy69 ry69 v23 (by first | omega | decide) (by first | omega | decide)
            refine xi_iastore (pc' := 41) (x' := y71) kc_14_40 rfl A69 rfl (xi_in (by omega) (by rw [hy69]; omega)) s71 (fun hh71 eh71 => ?_)
            have K72 := xk_pa K67 (xk_wa (by decide +kernel)) xD_117 hy71 ry71 eh71
            refine xi_aload_n (pc' := 42) (x := 115) kc_14_41 rfl rfl ?_
            have A73 := ((eh71.2.1 115 (by decide)).trans A68)
            refine xi_getfield (pc' := 45) (v := .ref 118) kc_14_42 rfl rfl rfl A73 rfl ?_
            refine xi_iload_n (pc' := 46) (x := v23) kc_14_45 rfl rfl ?_
            refine xi_iload_n (pc' := 47) (x := 2) kc_14_46 rfl rfl ?_
            refine xi_iconst (pc' := 48) (v := 2) kc_14_47 rfl rfl ?_
            refine xi_cmf (pc' := 51) kc_14_48 rfl rfl ?_
            refine xi_iload_n (pc' := 52) (x := v63) kc_14_51 rfl rfl ?_
            refine xi_goto (pc' := 61) kc_14_52 rfl ?_
            obtain ⟨y74, A74, hy74, ry74⟩ := xk_arr K72.1 xD_118
            obtain ⟨y75, s75, hy75, ry75⟩ := xj_set (v := v63) hy74 ry74 v23 (by first | omega | decide) (by first | omega | decide)
            refine xi_iastore (pc' := 62) (x' := y75) kc_14_61 rfl A74 rfl (xi_in (by omega) (by rw [hy74]; omega)) s75 (fun hh75 eh75 => ?_)
            have K76 := xk_pa K72 (xk_wa (by decide +kernel)) xD_118 hy75 ry75 eh75
            refine xi_aload_n (pc' := 63) (x := 115) kc_14_62 rfl rfl ?_
            have A77 := ((eh75.2.1 115 (by decide)).trans A73)
            refine xi_getfield (pc' := 66) (v := .ref 119) kc_14_63 rfl rfl rfl A77 rfl ?_
            refine xi_iload_n (pc' := 67) (x := v23) kc_14_66 rfl rfl ?_
            refine xi_iload_n (pc' := 68) (x := 2) kc_14_67 rfl rfl ?_
            refine xi_iconst (pc' := 69) (v := 3) kc_14_68 rfl rfl ?_
            refine xi_cmt (pc' := 76) kc_14_69 rfl rfl ?_
            refine xi_aload_n (pc' := 77) (x := 115) kc_14_76 rfl rfl ?_
            refine xi_getfield (pc' := 80) (v := .ref 119) kc_14_77 rfl rfl rfl A77 rfl ?_
            refine xi_iload_n (pc' := 81) (x := v23) kc_14_80 rfl rfl ?_
            obtain ⟨y78, A78, hy78, ry78⟩ := xk_arr K76.1 xD_119
            obtain ⟨v79, ev79, bv79, dv79⟩ := xj_get hy78 ry78 (i := v23) (by omega) (by omega)
            refine xi_iaload (pc' := 82) (v := v79) kc_14_81 rfl A78 (by decide) rfl (xi_in (by omega) (by rw [hy78]; omega)) ev79 ?_
            obtain ⟨y80, s80, hy80, ry80⟩ := xj_set (v := v79) hy78 ry78 v23 (by first | omega | decide) (by first | omega | decide)
            refine xi_iastore (pc' := 83) (x' := y80) kc_14_82 rfl A78 rfl (xi_in (by omega) (by rw [hy78]; omega)) s80 (fun hh80 eh80 => ?_)
            have K81 := xk_pa K76 (xk_wa (by decide +kernel)) xD_119 hy80 ry80 eh80
            refine xi_aload_n (pc' := 84) (x := 115) kc_14_83 rfl rfl ?_
            have A82 := ((eh80.2.1 115 (by decide)).trans A77)
            refine xi_getfield (pc' := 87) (v := .ref 120) kc_14_84 rfl rfl rfl A82 rfl ?_
            refine xi_iload_n (pc' := 88) (x := v23) kc_14_87 rfl rfl ?_
            refine xi_iload_n (pc' := 89) (x := 2) kc_14_88 rfl rfl ?_
            refine xi_iconst (pc' := 90) (v := 4) kc_14_89 rfl rfl ?_
            refine xi_cmt (pc' := 97) kc_14_90 rfl rfl ?_
            refine xi_aload_n (pc' := 98) (x := 115) kc_14_97 rfl rfl ?_
            refine xi_getfield (pc' := 101) (v := .ref 120) kc_14_98 rfl rfl rfl A82 rfl ?_
            refine xi_iload_n (pc' := 102) (x := v23) kc_14_101 rfl rfl ?_
            obtain ⟨y83, A83, hy83, ry83⟩ := xk_arr K81.1 xD_120
            obtain ⟨v84, ev84, bv84, dv84⟩ := xj_get hy83 ry83 (i := v23) (by omega) (by omega)
            refine xi_iaload (pc' := 103) (v := v84) kc_14_102 rfl A83 (by decide) rfl (xi_in (by omega) (by rw [hy83]; omega)) ev84 ?_
            obtain ⟨y85, s85, hy85, ry85⟩ := xj_set (v := v84) hy83 ry83 v23 (by first | omega | decide) (by first | omega | decide)
            refine xi_iastore (pc' := 104) (x' := y85) kc_14_103 rfl A83 rfl (xi_in (by omega) (by rw [hy83]; omega)) s85 (fun hh85 eh85 => ?_)
            have K86 := xk_pa K81 (xk_wa (by decide +kernel)) xD_120 hy85 ry85 eh85
            refine xi_aload_n (pc' := 105) (x := 115) kc_14_104 rfl rfl ?_
            have A87 := ((eh85.2.1 115 (by decide)).trans A82)
            refine xi_getfield (pc' := 108) (v := .ref 121) kc_14_105 rfl rfl rfl A87 rfl ?_
            refine xi_iload_n (pc' := 109) (x := v23) kc_14_108 rfl rfl ?_
            refine xi_iload_n (pc' := 110) (x := 2) kc_14_109 rfl rfl ?_
            refine xi_iconst (pc' := 111) (v := 5) kc_14_110 rfl rfl ?_
            refine xi_cmt (pc' := 118) kc_14_111 rfl rfl ?_
            refine xi_aload_n (pc' := 119) (x := 115) kc_14_118 rfl rfl ?_
            refine xi_getfield (pc' := 122) (v := .ref 121) kc_14_119 rfl rfl rfl A87 rfl ?_
            refine xi_iload_n (pc' := 123) (x := v23) kc_14_122 rfl rfl ?_
            obtain ⟨y88, A88, hy88, ry88⟩ := xk_arr K86.1 xD_121
            obtain ⟨v89, ev89, bv89, dv89⟩ := xj_get hy88 ry88 (i := v23) (by omega) (by omega)
            refine xi_iaload (pc' := 124) (v := v89) kc_14_123 rfl A88 (by decide) rfl (xi_in (by omega) (by rw [hy88]; omega)) ev89 ?_
            obtain ⟨y90, s90, hy90, ry90⟩ := xj_set (v := v89) hy88 ry88 v23 (by first | omega | decide) (by first | omega | decide)
            refine xi_iastore (pc' := 125) (x' := y90) kc_14_124 rfl A88 rfl (xi_in (by omega) (by rw [hy88]; omega)) s90 (fun hh90 eh90 => ?_)
            have K91 := xk_pa K86 (xk_wa (by decide +kernel)) xD_121 hy90 ry90 eh90
            refine xi_aload_n (pc' := 126) (x := 115) kc_14_125 rfl rfl ?_
            refine xi_iconst (pc' := 127) (v := 0) kc_14_126 rfl rfl ?_
            have A92 := ((eh90.2.1 115 (by decide)).trans A87)
            refine xi_putfield (pc' := 130) (fs' := [.int u1, .int u2, .ref 116, .ref 117, .ref 118, .ref 119, .ref 120, .ref 121, .ref 122, .ref 123, .ref 124, .ref 125, .ref 126, .ref 127, .ref 128, .ref 129, .int u3, .ref 130, .int u4, .ref 131, .ref 132, .ref 133, .ref 134, .int u5, .ref 135, .ref 136, .ref 137, .ref 138, .ref 139, .ref 140, .ref 141, .ref 142, .int u6, .int u7, .int u8, .ref 143, .ref 144, .ref 145, .ref 146, .ref 147, .ref 148, .int 0, .ref 149, .ref 150, .ref 151, .int u10, .ref 152, .ref 153, .ref 154, .ref 155, .ref 156, .ref 157, .ref 158, .ref 159, .int u11, .ref 160, .int u12, .ref 161, .ref 162, .ref 163, .ref 164, .int u13, .ref 165, .ref 166]) kc_14_127 rfl rfl rfl A92 rfl rfl rfl (Nat.le_of_ble_eq_true rfl) rfl (fun hh94 eh93 => ?_)
            have K95 := xk_pf (k := 41) (v := 0) K91 (xk_wf (by decide +kernel)) xD_115 A92 rfl (by first | omega | decide) (by first | omega | decide) eh93 rfl
            refine xi_return kc_14_130 mr_14 ?_
            show xw J ov (d + 5) 35 (337, [(0, .ref 115), (1, .int x1)], [], hh94) _
            obtain ⟨v96, ev96⟩ : ∃ q : Int32, x1 + 1 = q := ⟨_, rfl⟩
            have zv96 : v96.toInt = (x1.toInt + 1) := by rw [← ev96]; exact (xz_add (X := x1.toInt) (Y := 1) rfl (by decide) (by omega) (by omega)).trans (by omega)
            refine xi_iinc (pc' := 340) (x := x1) (v := v96) (lv' := [(1, .int v96), (0, .ref 115)]) kc_35_337 rfl rfl ev96 rfl (xm_lt ml_35 rfl) ?_
            refine xi_goto (pc' := 286) kc_35_340 rfl ?_
            refine xw_lv (b := [(0, .ref 115), (1, .int v96)]) (lvS_cons (lvS_cons (lvS_nil (show ([1, 0] : List Nat).Nodup by decide)) rfl) rfl) ?_
            exact i5 v96 hh94 (by omega) (fun v e => by have e2 := xl_val (u := u2) eh93.1 rfl e; subst e2; omega) K95 (by omega)
        · refine xi_cmt (pc' := 337) kc_35_304 rfl (xc_ne_t (X := v20.toInt) (Y := u2.toInt) rfl rfl (by omega)) ?_
          obtain ⟨v97, ev97⟩ : ∃ q : Int32, x1 + 1 = q := ⟨_, rfl⟩
          have zv97 : v97.toInt = (x1.toInt + 1) := by rw [← ev97]; exact (xz_add (X := x1.toInt) (Y := 1) rfl (by decide) (by omega) (by omega)).trans (by omega)
          refine xi_iinc (pc' := 340) (x := x1) (v := v97) (lv' := [(1, .int v97), (0, .ref 115)]) kc_35_337 rfl rfl ev97 rfl (xm_lt ml_35 rfl) ?_
          refine xi_goto (pc' := 286) kc_35_340 rfl ?_
          refine xw_lv (b := [(0, .ref 115), (1, .int v97)]) (lvS_cons (lvS_cons (lvS_nil (show ([1, 0] : List Nat).Nodup by decide)) rfl) rfl) ?_
          exact i5 v97 h (by omega) (fun v e => by have e2 := xl_val (u := u2) A14 rfl e; subst e2; omega) K (by omega)
set_option maxHeartbeats 4000000 in
theorem mt_35_0 {J : xe_J} {ov : List (List Int32)} (hJ : ∀ d mj as h, mj ≠ xe_loff → J d mj as h = none) (hov1 : ov[1]? = some [10, 0, 0, 0, 0, 0]) (hov2 : ov[2]? = some [99, 30, 50, 50, 1, 99999]) {d : Nat} {Q : Option Value → xe_H → Prop} {h : xe_H} {u0 : Int32} (T : xt h) (bgu0 : (0 ≤ u0.toInt ∧ u0.toInt ≤ 599)) (gi0 : (∀ v : Int32, xl h (115, 1) = some (.inl (.int v)) → v.toInt + (-1) * u0.toInt + 0 = 0)) (kk : (∀ h' : xe_H, (∀ v : Int32, xl h' (115, 1) = some (.inl (.int v)) → v.toInt + (-1) * u0.toInt + (-1) = 0) → xk xP_16 h h' → Q none h')) : xw J ov (d + 5) 35 (0, [(0, .ref 115)], [], h) Q := by
  have K : xk xP_16 h h := xk_re T
  obtain ⟨u1, u2, u3, u4, u5, u6, u7, u8, u9, u10, u11, u12, u13, bu1, bu2, bu3, bu4, bu5, bu6, bu7, bu8, bu9, bu10, bu11, bu12, bu13, A14⟩ := xq_115 K.1
  have gi0' := gi0 _ (xl_of A14 rfl)
  refine xi_iconst (pc' := 1) (v := 0) kc_35_0 rfl rfl ?_
  refine xi_istore_n (pc' := 2) (lv' := [(1, .int 0), (0, .ref 115)]) kc_35_1 rfl rfl (xm_lt ml_35 rfl) ?_
  have zc0 : (0 : Int32).toInt = 0 := by decide
  refine xw_lv (b := [(0, .ref 115), (1, .int 0)]) (lvS_cons (lvS_cons (lvS_nil (show ([1, 0] : List Nat).Nodup by decide)) rfl) rfl) ?_
  exact (lp_35_0 hJ hov1 hov2 (d := d) (hb := h) bgu0 (fun h9 o90 K9 => kk h9 o90 (xk_tr K K9 (xsb_ok _ _ (by decide +kernel)))) 82).1 0 h (by omega) (fun v e => by have e2 := xl_val (u := u2) A14 rfl e; subst e2; omega) (xk_re K.1) (by omega)
set_option maxHeartbeats 4000000 in
theorem lp_34_0 {J : xe_J} {ov : List (List Int32)} (hJ : ∀ d mj as h, mj ≠ xe_loff → J d mj as h = none) (hov1 : ov[1]? = some [10, 0, 0, 0, 0, 0]) (hov2 : ov[2]? = some [99, 30, 50, 50, 1, 99999]) {d : Nat} {Q : Option Value → xe_H → Prop} {hb : xe_H} {u0 : Int32} (bgu0 : (0 ≤ u0.toInt ∧ u0.toInt ≤ 600)) (kk : (∀ (r : Int32) (h' : xe_H), ((-6) ≤ r.toInt ∧ r.toInt ≤ 600) → xk xP_16 hb h' → Q (some (.int r)) h')) : ∀ m : Nat, (∀ (x1 : Int32) (x2 : Int32) (h : xe_H), (1 ≤ x1.toInt ∧ x1.toInt ≤ 600) → (0 ≤ x2.toInt ∧ x2.toInt ≤ 600) → (∀ v : Int32, xl h (115, 1) = some (.inl (.int v)) → v.toInt + (-1) * u0.toInt + (-1) * x2.toInt + 0 = 0) → (x2.toInt + (-1) * x1.toInt + 0 ≤ 0) → (x1.toInt + u0.toInt + (-600) ≤ 0) → xk xP_16 hb h → (-1) * x2.toInt + 600 < (m : Int) → xw J ov (d + 6) 34 (38, [(0, .ref 115), (1, .int x1), (2, .int x2)], [], h) Q) := by
  intro m
  induction m with
  | zero =>
    intro x1 x2 h b1 b2 gh0 gh1 gh2 K hm; exfalso; omega
  | succ m ih =>
    have i0 := ih
    intro x1 x2 h b1 b2 gh0 gh1 gh2 K hm
    obtain ⟨u1, u2, u3, u4, u5, u6, u7, u8, u9, u10, u11, u12, u13, bu1, bu2, bu3, bu4, bu5, bu6, bu7, bu8, bu9, bu10, bu11, bu12, bu13, A14⟩ := xq_115 K.1
    have gh0' := gh0 _ (xl_of A14 rfl)
    refine xi_iload_n (pc' := 39) (x := x2) kc_34_38 rfl rfl ?_
    refine xi_iload_n (pc' := 40) (x := x1) kc_34_39 rfl rfl ?_
    by_cases c15 : x1.toInt ≤ x2.toInt
    · refine xi_cmt (pc' := 53) kc_34_40 rfl (xc_ge_t (X := x2.toInt) (Y := x1.toInt) rfl rfl (by omega)) ?_
      refine xi_aload_n (pc' := 54) (x := 115) kc_34_53 rfl rfl ?_
      refine xi_getfield (pc' := 57) (v := .int u2) kc_34_54 rfl rfl rfl A14 rfl ?_
      refine xi_ireturn kc_34_57 mr_34 rfl ?_
      exact kk u2 h (by omega) K
    · refine xi_cmf (pc' := 43) kc_34_40 rfl (xc_ge_f (X := x2.toInt) (Y := x1.toInt) rfl rfl (by omega)) ?_
      refine xi_aload_n (pc' := 44) (x := 115) kc_34_43 rfl rfl ?_
      refine xi_virtual (mj := 35) (as := []) (st1 := []) (lv0 := [(0, .ref 115)]) kc_34_44 rfl rfl rfl rfl rfl A14 (Nat.le_of_ble_eq_true rfl) (hJ _ _ _ _ (by decide)) (xm_le ml_35 rfl) rfl ?_
      refine mt_35_0 hJ hov1 hov2 (d := d) (u0 := u2) K.1 (by omega) (fun v e => by have e2 := xl_val (u := u2) A14 rfl e; subst e2; omega) (fun hh17 o19 K18 => ?_)
      have K20 := xk_tr K K18 (xsb_ok _ _ (by decide +kernel))
      obtain ⟨u21, u22, u23, u24, u25, u26, u27, u28, u29, u30, u31, u32, u33, bu21, bu22, bu23, bu24, bu25, bu26, bu27, bu28, bu29, bu30, bu31, bu32, bu33, A34⟩ := xq_115 K20.1
      have e35 : u5 = u25 := xk_eqi (q := 23) K18 (by decide +kernel) A14 A34 rfl rfl
      subst e35
      have e36 : u8 = u28 := xk_eqi (q := 34) K18 (by decide +kernel) A14 A34 rfl rfl
      subst e36
      have o19' := o19 _ (xl_of A34 rfl)
      show xw J ov (d + 6) 34 (47, [(0, .ref 115), (1, .int x1), (2, .int x2)], [], hh17) _
      obtain ⟨v37, ev37⟩ : ∃ q : Int32, x2 + 1 = q := ⟨_, rfl⟩
      have zv37 : v37.toInt = (x2.toInt + 1) := by rw [← ev37]; exact (xz_add (X := x2.toInt) (Y := 1) rfl (by decide) (by omega) (by omega)).trans (by omega)
      refine xi_iinc (pc' := 50) (x := x2) (v := v37) (lv' := [(2, .int v37), (0, .ref 115), (1, .int x1)]) kc_34_47 rfl rfl ev37 rfl (xm_lt ml_34 rfl) ?_
      refine xi_goto (pc' := 38) kc_34_50 rfl ?_
      refine xw_lv (b := [(0, .ref 115), (1, .int x1), (2, .int v37)]) (lvS_cons (lvS_cons (lvS_cons (lvS_nil (show ([2, 0, 1] : List Nat).Nodup by decide)) rfl) rfl) rfl) ?_
      exact i0 x1 v37 hh17 (by omega) (by omega) (fun v e => by have e2 := xl_val (u := u22) A34 rfl e; subst e2; omega) (by first | omega | decide) (by first | omega | decide) K20 (by omega)
set_option maxHeartbeats 4000000 in
theorem mt_34_0 {J : xe_J} {ov : List (List Int32)} (hJ : ∀ d mj as h, mj ≠ xe_loff → J d mj as h = none) (hov1 : ov[1]? = some [10, 0, 0, 0, 0, 0]) (hov2 : ov[2]? = some [99, 30, 50, 50, 1, 99999]) {d : Nat} {Q : Option Value → xe_H → Prop} {h : xe_H} {x1 : Int32} {u0 : Int32} (T : xt h) (bgu0 : (0 ≤ u0.toInt ∧ u0.toInt ≤ 600)) (gi0 : (∀ v : Int32, xl h (115, 1) = some (.inl (.int v)) → v.toInt + (-1) * u0.toInt + 0 = 0)) (kk : (∀ (r : Int32) (h' : xe_H), ((-6) ≤ r.toInt ∧ r.toInt ≤ 600) → xk xP_16 h h' → Q (some (.int r)) h')) : xw J ov (d + 6) 34 (0, [(0, .ref 115), (1, .int x1)], [], h) Q := by
  have K : xk xP_16 h h := xk_re T
  have rx1 := xc_rng x1
  obtain ⟨u1, u2, u3, u4, u5, u6, u7, u8, u9, u10, u11, u12, u13, bu1, bu2, bu3, bu4, bu5, bu6, bu7, bu8, bu9, bu10, bu11, bu12, bu13, A14⟩ := xq_115 K.1
  have gi0' := gi0 _ (xl_of A14 rfl)
  refine xi_aload_n (pc' := 1) (x := 115) kc_34_0 rfl rfl ?_
  refine xi_iconst (pc' := 2) (v := 0) kc_34_1 rfl rfl ?_
  refine xi_putfield (pc' := 5) (fs' := [.int 0, .int u2, .ref 116, .ref 117, .ref 118, .ref 119, .ref 120, .ref 121, .ref 122, .ref 123, .ref 124, .ref 125, .ref 126, .ref 127, .ref 128, .ref 129, .int u3, .ref 130, .int u4, .ref 131, .ref 132, .ref 133, .ref 134, .int u5, .ref 135, .ref 136, .ref 137, .ref 138, .ref 139, .ref 140, .ref 141, .ref 142, .int u6, .int u7, .int u8, .ref 143, .ref 144, .ref 145, .ref 146, .ref 147, .ref 148, .int u9, .ref 149, .ref 150, .ref 151, .int u10, .ref 152, .ref 153, .ref 154, .ref 155, .ref 156, .ref 157, .ref 158, .ref 159, .int u11, .ref 160, .int u12, .ref 161, .ref 162, .ref 163, .ref 164, .int u13, .ref 165, .ref 166]) kc_34_2 rfl rfl rfl A14 rfl rfl rfl (Nat.le_of_ble_eq_true rfl) rfl (fun hh16 eh15 => ?_)
  have K17 := xk_pf (k := 0) (v := 0) K (xk_wf (by decide +kernel)) xD_115 A14 rfl (by first | omega | decide) (by first | omega | decide) eh15 rfl
  refine xi_iload_n (pc' := 6) (x := x1) kc_34_5 rfl rfl ?_
  refine xi_iconst (pc' := 7) (v := 1) kc_34_6 rfl rfl ?_
  by_cases c18 : 1 ≤ x1.toInt
  · refine xi_cmt (pc' := 17) kc_34_7 rfl (xc_ge_t (X := x1.toInt) (Y := 1) rfl (by decide) (by omega)) ?_
    refine xi_iload_n (pc' := 18) (x := x1) kc_34_17 rfl rfl ?_
    refine xi_sipush (pc' := 21) (v := 600) kc_34_18 rfl rfl ?_
    refine xi_aload_n (pc' := 22) (x := 115) kc_34_21 rfl rfl ?_
    refine xi_getfield (pc' := 25) (v := .int u2) kc_34_22 rfl rfl rfl eh15.1 rfl ?_
    obtain ⟨v19, ev19⟩ : ∃ q : Int32, 600 - u2 = q := ⟨_, rfl⟩
    have zv19 : v19.toInt = ((-1) * u2.toInt + 600) := by rw [← ev19]; exact (xz_sub (X := 600) (Y := u2.toInt) (by decide) rfl (by omega) (by omega)).trans (by omega)
    refine xi_isub (pc' := 26) (v := v19) kc_34_25 rfl ev19 ?_
    by_cases c20 : x1.toInt ≤ ((-1) * u2.toInt + 600)
    · refine xi_cmt (pc' := 36) kc_34_26 rfl (xc_le_t (X := x1.toInt) (Y := ((-1) * u2.toInt + 600)) rfl zv19 (by omega)) ?_
      refine xi_iconst (pc' := 37) (v := 0) kc_34_36 rfl rfl ?_
      refine xi_istore_n (pc' := 38) (lv' := [(2, .int 0), (0, .ref 115), (1, .int x1)]) kc_34_37 rfl rfl (xm_lt ml_34 rfl) ?_
      have zc0 : (0 : Int32).toInt = 0 := by decide
      refine xw_lv (b := [(0, .ref 115), (1, .int x1), (2, .int 0)]) (lvS_cons (lvS_cons (lvS_cons (lvS_nil (show ([2, 0, 1] : List Nat).Nodup by decide)) rfl) rfl) rfl) ?_
      exact (lp_34_0 hJ hov1 hov2 (d := d) (hb := hh16) bgu0 (fun r9 h9 b9 K9 => kk r9 h9 b9 (xk_tr K17 K9 (xsb_ok _ _ (by decide +kernel)))) 601) x1 0 hh16 (by omega) (by omega) (fun v e => by have e2 := xl_val (u := u2) eh15.1 rfl e; subst e2; omega) (by first | omega | decide) (by first | omega | decide) (xk_re K17.1) (by omega)
    · refine xi_cmf (pc' := 29) kc_34_26 rfl (xc_le_f (X := x1.toInt) (Y := ((-1) * u2.toInt + 600)) rfl zv19 (by omega)) ?_
      refine xi_aload_n (pc' := 30) (x := 115) kc_34_29 rfl rfl ?_
      refine xi_bipush (pc' := 32) (v := (-6)) kc_34_30 rfl rfl ?_
      refine xi_virtual (mj := 12) (as := [.int (-6)]) (st1 := []) (lv0 := [(0, .ref 115), (1, .int (-6))]) kc_34_32 rfl rfl rfl rfl rfl eh15.1 (Nat.le_of_ble_eq_true rfl) (hJ _ _ _ _ (by decide)) (xm_le ml_12 rfl) rfl ?_
      refine xi_aload_n (pc' := 1) (x := 115) kc_12_0 rfl rfl ?_
      refine xi_getfield (pc' := 4) (v := .ref 140) kc_12_1 rfl rfl rfl eh15.1 rfl ?_
      refine xi_iload_n (pc' := 5) (x := (-6)) kc_12_4 rfl rfl ?_
      refine xi_ineg (pc' := 6) (v := 6) kc_12_5 rfl rfl ?_
      refine xi_dup2 (pc' := 7) kc_12_6 rfl ⟨rfl, rfl⟩ ?_
      obtain ⟨y21, A21, hy21, ry21⟩ := xk_arr K17.1 xD_140
      obtain ⟨v22, ev22, bv22, dv22⟩ := xj_get hy21 ry21 (i := 6) (by decide) (by decide)
      refine xi_iaload (pc' := 8) (v := v22) kc_12_7 rfl A21 (by decide) rfl (xi_in (by decide) (by rw [hy21]; decide)) ev22 ?_
      refine xi_iconst (pc' := 9) (v := 1) kc_12_8 rfl rfl ?_
      obtain ⟨v23, ev23⟩ : ∃ q : Int32, (v22 : Int32) + 1 = q := ⟨_, rfl⟩
      have rv23 := xc_rng v23
      refine xi_iadd (pc' := 10) (v := v23) kc_12_9 rfl ev23 ?_
      obtain ⟨y24, s24, hy24, ry24⟩ := xj_set (v := v23) hy21 ry21 6 (by first | omega | decide) (by first | omega | decide)
      refine xi_iastore (pc' := 11) (x' := y24) kc_12_10 rfl A21 rfl (xi_in (by decide) (by rw [hy21]; decide)) s24 (fun hh24 eh24 => ?_)
      have K25 := xk_pa K17 (xk_wa (by decide +kernel)) xD_140 hy24 ry24 eh24
      refine xi_iload_n (pc' := 12) (x := (-6)) kc_12_11 rfl rfl ?_
      refine xi_ireturn kc_12_12 mr_12 rfl ?_
      show xw J ov (d + 6) 34 (35, [(0, .ref 115), (1, .int x1)], [.int (-6)], hh24) _
      refine xi_ireturn kc_34_35 mr_34 rfl ?_
      have zcm6 : ((-6) : Int32).toInt = (-6) := by decide
      exact kk (-6) hh24 (by omega) K25
  · refine xi_cmf (pc' := 10) kc_34_7 rfl (xc_ge_f (X := x1.toInt) (Y := 1) rfl (by decide) (by omega)) ?_
    refine xi_aload_n (pc' := 11) (x := 115) kc_34_10 rfl rfl ?_
    refine xi_bipush (pc' := 13) (v := (-4)) kc_34_11 rfl rfl ?_
    refine xi_virtual (mj := 12) (as := [.int (-4)]) (st1 := []) (lv0 := [(0, .ref 115), (1, .int (-4))]) kc_34_13 rfl rfl rfl rfl rfl eh15.1 (Nat.le_of_ble_eq_true rfl) (hJ _ _ _ _ (by decide)) (xm_le ml_12 rfl) rfl ?_
    refine xi_aload_n (pc' := 1) (x := 115) kc_12_0 rfl rfl ?_
    refine xi_getfield (pc' := 4) (v := .ref 140) kc_12_1 rfl rfl rfl eh15.1 rfl ?_
    refine xi_iload_n (pc' := 5) (x := (-4)) kc_12_4 rfl rfl ?_
    refine xi_ineg (pc' := 6) (v := 4) kc_12_5 rfl rfl ?_
    refine xi_dup2 (pc' := 7) kc_12_6 rfl ⟨rfl, rfl⟩ ?_
    obtain ⟨y26, A26, hy26, ry26⟩ := xk_arr K17.1 xD_140
    obtain ⟨v27, ev27, bv27, dv27⟩ := xj_get hy26 ry26 (i := 4) (by decide) (by decide)
    refine xi_iaload (pc' := 8) (v := v27) kc_12_7 rfl A26 (by decide) rfl (xi_in (by decide) (by rw [hy26]; decide)) ev27 ?_
    refine xi_iconst (pc' := 9) (v := 1) kc_12_8 rfl rfl ?_
    obtain ⟨v28, ev28⟩ : ∃ q : Int32, (v27 : Int32) + 1 = q := ⟨_, rfl⟩
    have rv28 := xc_rng v28
    refine xi_iadd (pc' := 10) (v := v28) kc_12_9 rfl ev28 ?_
    obtain ⟨y29, s29, hy29, ry29⟩ := xj_set (v := v28) hy26 ry26 4 (by first | omega | decide) (by first | omega | decide)
    refine xi_iastore (pc' := 11) (x' := y29) kc_12_10 rfl A26 rfl (xi_in (by decide) (by rw [hy26]; decide)) s29 (fun hh29 eh29 => ?_)
    have K30 := xk_pa K17 (xk_wa (by decide +kernel)) xD_140 hy29 ry29 eh29
    refine xi_iload_n (pc' := 12) (x := (-4)) kc_12_11 rfl rfl ?_
    refine xi_ireturn kc_12_12 mr_12 rfl ?_
    show xw J ov (d + 6) 34 (16, [(0, .ref 115), (1, .int x1)], [.int (-4)], hh29) _
    refine xi_ireturn kc_34_16 mr_34 rfl ?_
    have zcm4 : ((-4) : Int32).toInt = (-4) := by decide
    exact kk (-4) hh29 (by omega) K30
set_option maxHeartbeats 4000000 in
theorem lp_44_0 {J : xe_J} {ov : List (List Int32)} (hJ : ∀ d mj as h, mj ≠ xe_loff → J d mj as h = none) (hov1 : ov[1]? = some [10, 0, 0, 0, 0, 0]) (hov2 : ov[2]? = some [99, 30, 50, 50, 1, 99999]) {d : Nat} {Q : Option Value → xe_H → Prop} {hb : xe_H} (kk : (∀ h' : xe_H, xk xP_0 hb h' → Q none h')) : ∀ m : Nat, (∀ (x1 : Int32) (x2 : Int32) (x3 : Int32) (h : xe_H), ((-20) ≤ x1.toInt ∧ x1.toInt ≤ 98) → (0 ≤ x3.toInt ∧ x3.toInt ≤ 600) → xk xP_0 hb h → (-1) * x3.toInt + 600 < (m : Int) → xw J ov (d + 1) 44 (6, [(0, .ref 115), (1, .int x1), (2, .int x2), (3, .int x3)], [], h) Q) := by
  intro m
  induction m with
  | zero =>
    intro x1 x2 x3 h b1 b3 K hm; have rx2 := xc_rng x2; exfalso; omega
  | succ m ih =>
    have i0 := ih
    intro x1 x2 x3 h b1 b3 K hm
    have rx2 := xc_rng x2
    refine xi_iload_n (pc' := 7) (x := x3) kc_44_6 rfl rfl ?_
    refine xi_sipush (pc' := 10) (v := 600) kc_44_7 rfl rfl ?_
    by_cases c1 : 600 ≤ x3.toInt
    · refine xi_cmt (pc' := 77) kc_44_10 rfl (xc_ge_t (X := x3.toInt) (Y := 600) rfl (by decide) (by omega)) ?_
      refine xi_return kc_44_77 mr_44 ?_
      exact kk h K
    · refine xi_cmf (pc' := 13) kc_44_10 rfl (xc_ge_f (X := x3.toInt) (Y := 600) rfl (by decide) (by omega)) ?_
      refine xi_aload_n (pc' := 14) (x := 115) kc_44_13 rfl rfl ?_
      obtain ⟨u2, u3, u4, u5, u6, u7, u8, u9, u10, u11, u12, u13, u14, bu2, bu3, bu4, bu5, bu6, bu7, bu8, bu9, bu10, bu11, bu12, bu13, bu14, A15⟩ := xq_115 K.1
      refine xi_getfield (pc' := 17) (v := .ref 123) kc_44_14 rfl rfl rfl A15 rfl ?_
      refine xi_iload_n (pc' := 18) (x := x3) kc_44_17 rfl rfl ?_
      obtain ⟨y16, A16, hy16, ry16⟩ := xk_arr K.1 xD_123
      obtain ⟨v17, ev17, bv17, dv17⟩ := xj_get hy16 ry16 (i := x3) (by omega) (by omega)
      refine xi_iaload (pc' := 19) (v := v17) kc_44_18 rfl A16 (by decide) rfl (xi_in (by omega) (by rw [hy16]; omega)) ev17 ?_
      refine xi_bipush (pc' := 21) (v := 99) kc_44_19 rfl rfl ?_
      by_cases c18 : v17.toInt = 99
      · refine xi_cmf (pc' := 24) kc_44_21 rfl (xc_ne_f (X := v17.toInt) (Y := 99) rfl (by decide) (by omega)) ?_
        refine xi_iload_n (pc' := 25) (x := x1) kc_44_24 rfl rfl ?_
        refine xi_goto (pc' := 34) kc_44_25 rfl ?_
        refine xi_istore_n (pc' := 35) (lv' := [(1, .int x1), (0, .ref 115), (2, .int x2), (3, .int x3)]) kc_44_34 rfl rfl (xm_lt ml_44 rfl) ?_
        refine xi_aload_n (pc' := 36) (x := 115) kc_44_35 rfl rfl ?_
        refine xi_getfield (pc' := 39) (v := .ref 124) kc_44_36 rfl rfl rfl A15 rfl ?_
        refine xi_iload_n (pc' := 40) (x := x3) kc_44_39 rfl rfl ?_
        obtain ⟨y19, A19, hy19, ry19⟩ := xk_arr K.1 xD_124
        obtain ⟨v20, ev20, bv20, dv20⟩ := xj_get hy19 ry19 (i := x3) (by omega) (by omega)
        refine xi_iaload (pc' := 41) (v := v20) kc_44_40 rfl A19 (by decide) rfl (xi_in (by omega) (by rw [hy19]; omega)) ev20 ?_
        refine xi_bipush (pc' := 43) (v := 99) kc_44_41 rfl rfl ?_
        by_cases c21 : v20.toInt = 99
        · refine xi_cmf (pc' := 46) kc_44_43 rfl (xc_ne_f (X := v20.toInt) (Y := 99) rfl (by decide) (by omega)) ?_
          refine xi_iload_n (pc' := 47) (x := x2) kc_44_46 rfl rfl ?_
          refine xi_goto (pc' := 56) kc_44_47 rfl ?_
          refine xi_istore_n (pc' := 57) (lv' := [(2, .int x2), (1, .int x1), (0, .ref 115), (3, .int x3)]) kc_44_56 rfl rfl (xm_lt ml_44 rfl) ?_
          refine xi_aload_n (pc' := 58) (x := 115) kc_44_57 rfl rfl ?_
          refine xi_getfield (pc' := 61) (v := .ref 150) kc_44_58 rfl rfl rfl A15 rfl ?_
          refine xi_iload_n (pc' := 62) (x := x3) kc_44_61 rfl rfl ?_
          refine xi_iload_n (pc' := 63) (x := x1) kc_44_62 rfl rfl ?_
          obtain ⟨y22, A22, hy22, ry22⟩ := xk_arr K.1 xD_150
          obtain ⟨y23, s23, hy23, ry23⟩ := xj_set (v := x1) hy22 ry22 x3 (by first | omega | decide) (by first | omega | decide)
          refine xi_iastore (pc' := 64) (x' := y23) kc_44_63 rfl A22 rfl (xi_in (by omega) (by rw [hy22]; omega)) s23 (fun hh23 eh23 => ?_)
          have K24 := xk_pa K (xk_wa (by decide +kernel)) xD_150 hy23 ry23 eh23
          refine xi_aload_n (pc' := 65) (x := 115) kc_44_64 rfl rfl ?_
          have A25 := ((eh23.2.1 115 (by decide)).trans A15)
          refine xi_getfield (pc' := 68) (v := .ref 151) kc_44_65 rfl rfl rfl A25 rfl ?_
          refine xi_iload_n (pc' := 69) (x := x3) kc_44_68 rfl rfl ?_
          refine xi_iload_n (pc' := 70) (x := x2) kc_44_69 rfl rfl ?_
          obtain ⟨y26, A26, hy26, ry26⟩ := xk_arr K24.1 xD_151
          obtain ⟨y27, s27, hy27, ry27⟩ := xj_set (v := x2) hy26 ry26 x3 (by first | omega | decide) (by first | omega | decide)
          refine xi_iastore (pc' := 71) (x' := y27) kc_44_70 rfl A26 rfl (xi_in (by omega) (by rw [hy26]; omega)) s27 (fun hh27 eh27 => ?_)
          have K28 := xk_pa K24 (xk_wa (by decide +kernel)) xD_151 hy27 ry27 eh27
          obtain ⟨v29, ev29⟩ : ∃ q : Int32, x3 + 1 = q := ⟨_, rfl⟩
          have zv29 : v29.toInt = (x3.toInt + 1) := by rw [← ev29]; exact (xz_add (X := x3.toInt) (Y := 1) rfl (by decide) (by omega) (by omega)).trans (by omega)
          refine xi_iinc (pc' := 74) (x := x3) (v := v29) (lv' := [(3, .int v29), (2, .int x2), (1, .int x1), (0, .ref 115)]) kc_44_71 rfl rfl ev29 rfl (xm_lt ml_44 rfl) ?_
          refine xi_goto (pc' := 6) kc_44_74 rfl ?_
          refine xw_lv (b := [(0, .ref 115), (1, .int x1), (2, .int x2), (3, .int v29)]) (lvS_cons (lvS_cons (lvS_cons (lvS_cons (lvS_nil (show ([3, 2, 1, 0] : List Nat).Nodup by decide)) rfl) rfl) rfl) rfl) ?_
          exact i0 x1 x2 v29 hh27 (by omega) (by omega) K28 (by omega)
        · refine xi_cmt (pc' := 50) kc_44_43 rfl (xc_ne_t (X := v20.toInt) (Y := 99) rfl (by decide) (by omega)) ?_
          refine xi_aload_n (pc' := 51) (x := 115) kc_44_50 rfl rfl ?_
          refine xi_getfield (pc' := 54) (v := .ref 124) kc_44_51 rfl rfl rfl A15 rfl ?_
          refine xi_iload_n (pc' := 55) (x := x3) kc_44_54 rfl rfl ?_
          refine xi_iaload (pc' := 56) (v := v20) kc_44_55 rfl A19 (by decide) rfl (xi_in (by omega) (by rw [hy19]; omega)) ev20 ?_
          refine xi_istore_n (pc' := 57) (lv' := [(2, .int v20), (1, .int x1), (0, .ref 115), (3, .int x3)]) kc_44_56 rfl rfl (xm_lt ml_44 rfl) ?_
          refine xi_aload_n (pc' := 58) (x := 115) kc_44_57 rfl rfl ?_
          refine xi_getfield (pc' := 61) (v := .ref 150) kc_44_58 rfl rfl rfl A15 rfl ?_
          refine xi_iload_n (pc' := 62) (x := x3) kc_44_61 rfl rfl ?_
          refine xi_iload_n (pc' := 63) (x := x1) kc_44_62 rfl rfl ?_
          obtain ⟨y30, A30, hy30, ry30⟩ := xk_arr K.1 xD_150
          obtain ⟨y31, s31, hy31, ry31⟩ := xj_set (v := x1) hy30 ry30 x3 (by first | omega | decide) (by first | omega | decide)
          refine xi_iastore (pc' := 64) (x' := y31) kc_44_63 rfl A30 rfl (xi_in (by omega) (by rw [hy30]; omega)) s31 (fun hh31 eh31 => ?_)
          have K32 := xk_pa K (xk_wa (by decide +kernel)) xD_150 hy31 ry31 eh31
          refine xi_aload_n (pc' := 65) (x := 115) kc_44_64 rfl rfl ?_
          have A33 := ((eh31.2.1 115 (by decide)).trans A15)
          refine xi_getfield (pc' := 68) (v := .ref 151) kc_44_65 rfl rfl rfl A33 rfl ?_
          refine xi_iload_n (pc' := 69) (x := x3) kc_44_68 rfl rfl ?_
          refine xi_iload_n (pc' := 70) (x := v20) kc_44_69 rfl rfl ?_
          obtain ⟨y34, A34, hy34, ry34⟩ := xk_arr K32.1 xD_151
          obtain ⟨y35, s35, hy35, ry35⟩ := xj_set (v := v20) hy34 ry34 x3 (by first | omega | decide) (by first | omega | decide)
          refine xi_iastore (pc' := 71) (x' := y35) kc_44_70 rfl A34 rfl (xi_in (by omega) (by rw [hy34]; omega)) s35 (fun hh35 eh35 => ?_)
          have K36 := xk_pa K32 (xk_wa (by decide +kernel)) xD_151 hy35 ry35 eh35
          obtain ⟨v37, ev37⟩ : ∃ q : Int32, x3 + 1 = q := ⟨_, rfl⟩
          have zv37 : v37.toInt = (x3.toInt + 1) := by rw [← ev37]; exact (xz_add (X := x3.toInt) (Y := 1) rfl (by decide) (by omega) (by omega)).trans (by omega)
          refine xi_iinc (pc' := 74) (x := x3) (v := v37) (lv' := [(3, .int v37), (2, .int v20), (1, .int x1), (0, .ref 115)]) kc_44_71 rfl rfl ev37 rfl (xm_lt ml_44 rfl) ?_
          refine xi_goto (pc' := 6) kc_44_74 rfl ?_
          refine xw_lv (b := [(0, .ref 115), (1, .int x1), (2, .int v20), (3, .int v37)]) (lvS_cons (lvS_cons (lvS_cons (lvS_cons (lvS_nil (show ([3, 2, 1, 0] : List Nat).Nodup by decide)) rfl) rfl) rfl) rfl) ?_
          exact i0 x1 v20 v37 hh35 (by omega) (by omega) K36 (by omega)
      · refine xi_cmt (pc' := 28) kc_44_21 rfl (xc_ne_t (X := v17.toInt) (Y := 99) rfl (by decide) (by omega)) ?_
        refine xi_aload_n (pc' := 29) (x := 115) kc_44_28 rfl rfl ?_
        refine xi_getfield (pc' := 32) (v := .ref 123) kc_44_29 rfl rfl rfl A15 rfl ?_
        refine xi_iload_n (pc' := 33) (x := x3) kc_44_32 rfl rfl ?_
        refine xi_iaload (pc' := 34) (v := v17) kc_44_33 rfl A16 (by decide) rfl (xi_in (by omega) (by rw [hy16]; omega)) ev17 ?_
        refine xi_istore_n (pc' := 35) (lv' := [(1, .int v17), (0, .ref 115), (2, .int x2), (3, .int x3)]) kc_44_34 rfl rfl (xm_lt ml_44 rfl) ?_
        refine xi_aload_n (pc' := 36) (x := 115) kc_44_35 rfl rfl ?_
        refine xi_getfield (pc' := 39) (v := .ref 124) kc_44_36 rfl rfl rfl A15 rfl ?_
        refine xi_iload_n (pc' := 40) (x := x3) kc_44_39 rfl rfl ?_
        obtain ⟨y38, A38, hy38, ry38⟩ := xk_arr K.1 xD_124
        obtain ⟨v39, ev39, bv39, dv39⟩ := xj_get hy38 ry38 (i := x3) (by omega) (by omega)
        refine xi_iaload (pc' := 41) (v := v39) kc_44_40 rfl A38 (by decide) rfl (xi_in (by omega) (by rw [hy38]; omega)) ev39 ?_
        refine xi_bipush (pc' := 43) (v := 99) kc_44_41 rfl rfl ?_
        by_cases c40 : v39.toInt = 99
        · refine xi_cmf (pc' := 46) kc_44_43 rfl (xc_ne_f (X := v39.toInt) (Y := 99) rfl (by decide) (by omega)) ?_
          refine xi_iload_n (pc' := 47) (x := x2) kc_44_46 rfl rfl ?_
          refine xi_goto (pc' := 56) kc_44_47 rfl ?_
          refine xi_istore_n (pc' := 57) (lv' := [(2, .int x2), (1, .int v17), (0, .ref 115), (3, .int x3)]) kc_44_56 rfl rfl (xm_lt ml_44 rfl) ?_
          refine xi_aload_n (pc' := 58) (x := 115) kc_44_57 rfl rfl ?_
          refine xi_getfield (pc' := 61) (v := .ref 150) kc_44_58 rfl rfl rfl A15 rfl ?_
          refine xi_iload_n (pc' := 62) (x := x3) kc_44_61 rfl rfl ?_
          refine xi_iload_n (pc' := 63) (x := v17) kc_44_62 rfl rfl ?_
          obtain ⟨y41, A41, hy41, ry41⟩ := xk_arr K.1 xD_150
          obtain ⟨y42, s42, hy42, ry42⟩ := xj_set (v := v17) hy41 ry41 x3 (by first | omega | decide) (by first | omega | decide)
          refine xi_iastore (pc' := 64) (x' := y42) kc_44_63 rfl A41 rfl (xi_in (by omega) (by rw [hy41]; omega)) s42 (fun hh42 eh42 => ?_)
          have K43 := xk_pa K (xk_wa (by decide +kernel)) xD_150 hy42 ry42 eh42
          refine xi_aload_n (pc' := 65) (x := 115) kc_44_64 rfl rfl ?_
          have A44 := ((eh42.2.1 115 (by decide)).trans A15)
          refine xi_getfield (pc' := 68) (v := .ref 151) kc_44_65 rfl rfl rfl A44 rfl ?_
          refine xi_iload_n (pc' := 69) (x := x3) kc_44_68 rfl rfl ?_
          refine xi_iload_n (pc' := 70) (x := x2) kc_44_69 rfl rfl ?_
          obtain ⟨y45, A45, hy45, ry45⟩ := xk_arr K43.1 xD_151
          obtain ⟨y46, s46, hy46, ry46⟩ := xj_set (v := x2) hy45 ry45 x3 (by first | omega | decide) (by first | omega | decide)
          refine xi_iastore (pc' := 71) (x' := y46) kc_44_70 rfl A45 rfl (xi_in (by omega) (by rw [hy45]; omega)) s46 (fun hh46 eh46 => ?_)
          have K47 := xk_pa K43 (xk_wa (by decide +kernel)) xD_151 hy46 ry46 eh46
          obtain ⟨v48, ev48⟩ : ∃ q : Int32, x3 + 1 = q := ⟨_, rfl⟩
          have zv48 : v48.toInt = (x3.toInt + 1) := by rw [← ev48]; exact (xz_add (X := x3.toInt) (Y := 1) rfl (by decide) (by omega) (by omega)).trans (by omega)
          refine xi_iinc (pc' := 74) (x := x3) (v := v48) (lv' := [(3, .int v48), (2, .int x2), (1, .int v17), (0, .ref 115)]) kc_44_71 rfl rfl ev48 rfl (xm_lt ml_44 rfl) ?_
          refine xi_goto (pc' := 6) kc_44_74 rfl ?_
          refine xw_lv (b := [(0, .ref 115), (1, .int v17), (2, .int x2), (3, .int v48)]) (lvS_cons (lvS_cons (lvS_cons (lvS_cons (lvS_nil (show ([3, 2, 1, 0] : List Nat).Nodup by decide)) rfl) rfl) rfl) rfl) ?_
          exact i0 v17 x2 v48 hh46 (by omega) (by omega) K47 (by omega)
        · refine xi_cmt (pc' := 50) kc_44_43 rfl (xc_ne_t (X := v39.toInt) (Y := 99) rfl (by decide) (by omega)) ?_
          refine xi_aload_n (pc' := 51) (x := 115) kc_44_50 rfl rfl ?_
          refine xi_getfield (pc' := 54) (v := .ref 124) kc_44_51 rfl rfl rfl A15 rfl ?_
          refine xi_iload_n (pc' := 55) (x := x3) kc_44_54 rfl rfl ?_
          refine xi_iaload (pc' := 56) (v := v39) kc_44_55 rfl A38 (by decide) rfl (xi_in (by omega) (by rw [hy38]; omega)) ev39 ?_
          refine xi_istore_n (pc' := 57) (lv' := [(2, .int v39), (1, .int v17), (0, .ref 115), (3, .int x3)]) kc_44_56 rfl rfl (xm_lt ml_44 rfl) ?_
          refine xi_aload_n (pc' := 58) (x := 115) kc_44_57 rfl rfl ?_
          refine xi_getfield (pc' := 61) (v := .ref 150) kc_44_58 rfl rfl rfl A15 rfl ?_
          refine xi_iload_n (pc' := 62) (x := x3) kc_44_61 rfl rfl ?_
          refine xi_iload_n (pc' := 63) (x := v17) kc_44_62 rfl rfl ?_
          obtain ⟨y49, A49, hy49, ry49⟩ := xk_arr K.1 xD_150
          obtain ⟨y50, s50, hy50, ry50⟩ := xj_set (v := v17) hy49 ry49 x3 (by first | omega | decide) (by first | omega | decide)
          refine xi_iastore (pc' := 64) (x' := y50) kc_44_63 rfl A49 rfl (xi_in (by omega) (by rw [hy49]; omega)) s50 (fun hh50 eh50 => ?_)
          have K51 := xk_pa K (xk_wa (by decide +kernel)) xD_150 hy50 ry50 eh50
          refine xi_aload_n (pc' := 65) (x := 115) kc_44_64 rfl rfl ?_
          have A52 := ((eh50.2.1 115 (by decide)).trans A15)
          refine xi_getfield (pc' := 68) (v := .ref 151) kc_44_65 rfl rfl rfl A52 rfl ?_
          refine xi_iload_n (pc' := 69) (x := x3) kc_44_68 rfl rfl ?_
          refine xi_iload_n (pc' := 70) (x := v39) kc_44_69 rfl rfl ?_
          obtain ⟨y53, A53, hy53, ry53⟩ := xk_arr K51.1 xD_151
          obtain ⟨y54, s54, hy54, ry54⟩ := xj_set (v := v39) hy53 ry53 x3 (by first | omega | decide) (by first | omega | decide)
          refine xi_iastore (pc' := 71) (x' := y54) kc_44_70 rfl A53 rfl (xi_in (by omega) (by rw [hy53]; omega)) s54 (fun hh54 eh54 => ?_)
          have K55 := xk_pa K51 (xk_wa (by decide +kernel)) xD_151 hy54 ry54 eh54
          obtain ⟨v56, ev56⟩ : ∃ q : Int32, x3 + 1 = q := ⟨_, rfl⟩
          have zv56 : v56.toInt = (x3.toInt + 1) := by rw [← ev56]; exact (xz_add (X := x3.toInt) (Y := 1) rfl (by decide) (by omega) (by omega)).trans (by omega)
          refine xi_iinc (pc' := 74) (x := x3) (v := v56) (lv' := [(3, .int v56), (2, .int v39), (1, .int v17), (0, .ref 115)]) kc_44_71 rfl rfl ev56 rfl (xm_lt ml_44 rfl) ?_
          refine xi_goto (pc' := 6) kc_44_74 rfl ?_
          refine xw_lv (b := [(0, .ref 115), (1, .int v17), (2, .int v39), (3, .int v56)]) (lvS_cons (lvS_cons (lvS_cons (lvS_cons (lvS_nil (show ([3, 2, 1, 0] : List Nat).Nodup by decide)) rfl) rfl) rfl) rfl) ?_
          exact i0 v17 v39 v56 hh54 (by omega) (by omega) K55 (by omega)
set_option maxHeartbeats 4000000 in
theorem mt_44_0 {J : xe_J} {ov : List (List Int32)} (hJ : ∀ d mj as h, mj ≠ xe_loff → J d mj as h = none) (hov1 : ov[1]? = some [10, 0, 0, 0, 0, 0]) (hov2 : ov[2]? = some [99, 30, 50, 50, 1, 99999]) {d : Nat} {Q : Option Value → xe_H → Prop} {h : xe_H} (T : xt h) (kk : (∀ h' : xe_H, xk xP_0 h h' → Q none h')) : xw J ov (d + 1) 44 (0, [(0, .ref 115)], [], h) Q := by
  have K : xk xP_0 h h := xk_re T
  refine xi_iconst (pc' := 1) (v := 5) kc_44_0 rfl rfl ?_
  refine xi_istore_n (pc' := 2) (lv' := [(1, .int 5), (0, .ref 115)]) kc_44_1 rfl rfl (xm_lt ml_44 rfl) ?_
  refine xi_iconst (pc' := 3) (v := 0) kc_44_2 rfl rfl ?_
  refine xi_istore_n (pc' := 4) (lv' := [(2, .int 0), (1, .int 5), (0, .ref 115)]) kc_44_3 rfl rfl (xm_lt ml_44 rfl) ?_
  refine xi_iconst (pc' := 5) (v := 0) kc_44_4 rfl rfl ?_
  refine xi_istore_n (pc' := 6) (lv' := [(3, .int 0), (2, .int 0), (1, .int 5), (0, .ref 115)]) kc_44_5 rfl rfl (xm_lt ml_44 rfl) ?_
  have zc0 : (0 : Int32).toInt = 0 := by decide
  have zc5 : (5 : Int32).toInt = 5 := by decide
  refine xw_lv (b := [(0, .ref 115), (1, .int 5), (2, .int 0), (3, .int 0)]) (lvS_cons (lvS_cons (lvS_cons (lvS_cons (lvS_nil (show ([3, 2, 1, 0] : List Nat).Nodup by decide)) rfl) rfl) rfl) rfl) ?_
  exact (lp_44_0 hJ hov1 hov2 (d := d) (hb := h) (fun h9 K9 => kk h9 (xk_tr K K9 (xsb_ok _ _ (by decide +kernel)))) 601) 5 0 0 h (by omega) (by omega) (xk_re K.1) (by omega)
set_option maxHeartbeats 4000000 in
theorem lp_45_0 {J : xe_J} {ov : List (List Int32)} (hJ : ∀ d mj as h, mj ≠ xe_loff → J d mj as h = none) (hov1 : ov[1]? = some [10, 0, 0, 0, 0, 0]) (hov2 : ov[2]? = some [99, 30, 50, 50, 1, 99999]) {d : Nat} {Q : Option Value → xe_H → Prop} {hb : xe_H} (kk : (∀ (r : Int64) (h' : xe_H), xk xP_17 hb h' → Q (some (.long r)) h')) : ∀ m : Nat, (∀ (x1 : Int32) (w2 : Int64) (x4 : Int32) (x5 : Int32) (h : xe_H), (0 ≤ x1.toInt ∧ x1.toInt ≤ 63) → (0 ≤ x4.toInt ∧ x4.toInt ≤ 0) → (0 ≤ x5.toInt ∧ x5.toInt ≤ 6) → xk xP_17 hb h → (-1) * x5.toInt + 37343 < (m : Int) → xw J ov (d + 5) 45 (8, [(0, .ref 115), (1, .int x1), (2, .long w2), (4, .int x4), (5, .int x5)], [], h) Q) ∧ (∀ (x1 : Int32) (w2 : Int64) (x4 : Int32) (x5 : Int32) (h : xe_H), (0 ≤ x1.toInt ∧ x1.toInt ≤ 63) → (0 ≤ x4.toInt ∧ x4.toInt ≤ 0) → (0 ≤ x5.toInt ∧ x5.toInt ≤ 12) → xk xP_17 hb h → (-1) * x5.toInt + 37336 < (m : Int) → xw J ov (d + 5) 45 (32, [(0, .ref 115), (1, .int x1), (2, .long w2), (4, .int x4), (5, .int x5)], [], h) Q) ∧ (∀ (x1 : Int32) (w2 : Int64) (x4 : Int32) (x5 : Int32) (h : xe_H), (0 ≤ x1.toInt ∧ x1.toInt ≤ 63) → (0 ≤ x4.toInt ∧ x4.toInt ≤ 60) → (0 ≤ x5.toInt ∧ x5.toInt ≤ 601) → xk xP_17 hb h → (-62) * x5.toInt + 37323 < (m : Int) → xw J ov (d + 5) 45 (56, [(0, .ref 115), (1, .int x1), (2, .long w2), (4, .int x4), (5, .int x5)], [], h) Q) ∧ (∀ (x1 : Int32) (w2 : Int64) (x4 : Int32) (x5 : Int32) (h : xe_H), (0 ≤ x1.toInt ∧ x1.toInt ≤ 63) → (0 ≤ x4.toInt ∧ x4.toInt ≤ 60) → (0 ≤ x5.toInt ∧ x5.toInt ≤ 600) → xk xP_17 hb h → (-62) * x5.toInt + (-1) * x4.toInt + 37322 < (m : Int) → xw J ov (d + 5) 45 (65, [(0, .ref 115), (1, .int x1), (2, .long w2), (4, .int x4), (5, .int x5)], [], h) Q) := by
  intro m
  induction m with
  | zero =>
    refine ⟨?_, ?_, ?_, ?_⟩
    · intro x1 w2 x4 x5 h b1 b4 b5 K hm; exfalso; omega
    · intro x1 w2 x4 x5 h b1 b4 b5 K hm; exfalso; omega
    · intro x1 w2 x4 x5 h b1 b4 b5 K hm; exfalso; omega
    · intro x1 w2 x4 x5 h b1 b4 b5 K hm; exfalso; omega
  | succ m ih =>
    obtain ⟨i0, i1, i2, i3⟩ := ih
    refine ⟨?_, ?_, ?_, ?_⟩
    · intro x1 w2 x4 x5 h b1 b4 b5 K hm
      refine xi_iload (pc' := 10) (x := x5) kc_45_8 rfl rfl ?_
      refine xi_bipush (pc' := 12) (v := 6) kc_45_10 rfl rfl ?_
      by_cases c1 : 6 ≤ x5.toInt
      · refine xi_cmt (pc' := 29) kc_45_12 rfl (xc_ge_t (X := x5.toInt) (Y := 6) rfl (by decide) (by omega)) ?_
        refine xi_iconst (pc' := 30) (v := 0) kc_45_29 rfl rfl ?_
        refine xi_istore (pc' := 32) (lv' := [(5, .int 0), (0, .ref 115), (1, .int x1), (2, .long w2), (4, .int x4)]) kc_45_30 rfl rfl (xm_lt ml_45 rfl) ?_
        have zc0 : (0 : Int32).toInt = 0 := by decide
        refine xw_lv (b := [(0, .ref 115), (1, .int x1), (2, .long w2), (4, .int x4), (5, .int 0)]) (lvS_cons (lvS_cons (lvS_cons (lvS_cons (lvS_cons (lvS_nil (show ([5, 0, 1, 2, 4] : List Nat).Nodup by decide)) rfl) rfl) rfl) rfl) rfl) ?_
        exact i1 x1 w2 x4 0 h (by omega) (by omega) (by omega) K (by omega)
      · refine xi_cmf (pc' := 15) kc_45_12 rfl (xc_ge_f (X := x5.toInt) (Y := 6) rfl (by decide) (by omega)) ?_
        refine xi_aload_n (pc' := 16) (x := 115) kc_45_15 rfl rfl ?_
        obtain ⟨u2, u3, u4, u5, u6, u7, u8, u9, u10, u11, u12, u13, u14, bu2, bu3, bu4, bu5, bu6, bu7, bu8, bu9, bu10, bu11, bu12, bu13, bu14, A15⟩ := xq_115 K.1
        refine xi_getfield (pc' := 19) (v := .ref 141) kc_45_16 rfl rfl rfl A15 rfl ?_
        refine xi_iload (pc' := 21) (x := x5) kc_45_19 rfl rfl ?_
        refine xi_iconst (pc' := 22) (v := 0) kc_45_21 rfl rfl ?_
        obtain ⟨y16, A16, hy16, ry16⟩ := xk_arr K.1 xD_141
        obtain ⟨y17, s17, hy17, ry17⟩ := xj_set (v := 0) hy16 ry16 x5 (by first | omega | decide) (by first | omega | decide)
        refine xi_iastore (pc' := 23) (x' := y17) kc_45_22 rfl A16 rfl (xi_in (by omega) (by rw [hy16]; omega)) s17 (fun hh17 eh17 => ?_)
        have K18 := xk_pa K (xk_wa (by decide +kernel)) xD_141 hy17 ry17 eh17
        obtain ⟨v19, ev19⟩ : ∃ q : Int32, x5 + 1 = q := ⟨_, rfl⟩
        have zv19 : v19.toInt = (x5.toInt + 1) := by rw [← ev19]; exact (xz_add (X := x5.toInt) (Y := 1) rfl (by decide) (by omega) (by omega)).trans (by omega)
        refine xi_iinc (pc' := 26) (x := x5) (v := v19) (lv' := [(5, .int v19), (0, .ref 115), (1, .int x1), (2, .long w2), (4, .int x4)]) kc_45_23 rfl rfl ev19 rfl (xm_lt ml_45 rfl) ?_
        refine xi_goto (pc' := 8) kc_45_26 rfl ?_
        refine xw_lv (b := [(0, .ref 115), (1, .int x1), (2, .long w2), (4, .int x4), (5, .int v19)]) (lvS_cons (lvS_cons (lvS_cons (lvS_cons (lvS_cons (lvS_nil (show ([5, 0, 1, 2, 4] : List Nat).Nodup by decide)) rfl) rfl) rfl) rfl) rfl) ?_
        exact i0 x1 w2 x4 v19 hh17 (by omega) (by omega) (by omega) K18 (by omega)
    · intro x1 w2 x4 x5 h b1 b4 b5 K hm
      refine xi_iload (pc' := 34) (x := x5) kc_45_32 rfl rfl ?_
      refine xi_bipush (pc' := 36) (v := 12) kc_45_34 rfl rfl ?_
      by_cases c1 : 12 ≤ x5.toInt
      · refine xi_cmt (pc' := 53) kc_45_36 rfl (xc_ge_t (X := x5.toInt) (Y := 12) rfl (by decide) (by omega)) ?_
        refine xi_iconst (pc' := 54) (v := 0) kc_45_53 rfl rfl ?_
        refine xi_istore (pc' := 56) (lv' := [(5, .int 0), (0, .ref 115), (1, .int x1), (2, .long w2), (4, .int x4)]) kc_45_54 rfl rfl (xm_lt ml_45 rfl) ?_
        have zc0 : (0 : Int32).toInt = 0 := by decide
        refine xw_lv (b := [(0, .ref 115), (1, .int x1), (2, .long w2), (4, .int x4), (5, .int 0)]) (lvS_cons (lvS_cons (lvS_cons (lvS_cons (lvS_cons (lvS_nil (show ([5, 0, 1, 2, 4] : List Nat).Nodup by decide)) rfl) rfl) rfl) rfl) rfl) ?_
        exact i2 x1 w2 x4 0 h (by omega) (by omega) (by omega) K (by omega)
      · refine xi_cmf (pc' := 39) kc_45_36 rfl (xc_ge_f (X := x5.toInt) (Y := 12) rfl (by decide) (by omega)) ?_
        refine xi_aload_n (pc' := 40) (x := 115) kc_45_39 rfl rfl ?_
        obtain ⟨u2, u3, u4, u5, u6, u7, u8, u9, u10, u11, u12, u13, u14, bu2, bu3, bu4, bu5, bu6, bu7, bu8, bu9, bu10, bu11, bu12, bu13, bu14, A15⟩ := xq_115 K.1
        refine xi_getfield (pc' := 43) (v := .ref 142) kc_45_40 rfl rfl rfl A15 rfl ?_
        refine xi_iload (pc' := 45) (x := x5) kc_45_43 rfl rfl ?_
        refine xi_iconst (pc' := 46) (v := 0) kc_45_45 rfl rfl ?_
        obtain ⟨y16, A16, hy16, ry16⟩ := xk_arr K.1 xD_142
        obtain ⟨y17, s17, hy17, ry17⟩ := xj_set (v := 0) hy16 ry16 x5 (by first | omega | decide) (by first | omega | decide)
        refine xi_iastore (pc' := 47) (x' := y17) kc_45_46 rfl A16 rfl (xi_in (by omega) (by rw [hy16]; omega)) s17 (fun hh17 eh17 => ?_)
        have K18 := xk_pa K (xk_wa (by decide +kernel)) xD_142 hy17 ry17 eh17
        obtain ⟨v19, ev19⟩ : ∃ q : Int32, x5 + 1 = q := ⟨_, rfl⟩
        have zv19 : v19.toInt = (x5.toInt + 1) := by rw [← ev19]; exact (xz_add (X := x5.toInt) (Y := 1) rfl (by decide) (by omega) (by omega)).trans (by omega)
        refine xi_iinc (pc' := 50) (x := x5) (v := v19) (lv' := [(5, .int v19), (0, .ref 115), (1, .int x1), (2, .long w2), (4, .int x4)]) kc_45_47 rfl rfl ev19 rfl (xm_lt ml_45 rfl) ?_
        refine xi_goto (pc' := 32) kc_45_50 rfl ?_
        refine xw_lv (b := [(0, .ref 115), (1, .int x1), (2, .long w2), (4, .int x4), (5, .int v19)]) (lvS_cons (lvS_cons (lvS_cons (lvS_cons (lvS_cons (lvS_nil (show ([5, 0, 1, 2, 4] : List Nat).Nodup by decide)) rfl) rfl) rfl) rfl) rfl) ?_
        exact i1 x1 w2 x4 v19 hh17 (by omega) (by omega) (by omega) K18 (by omega)
    · intro x1 w2 x4 x5 h b1 b4 b5 K hm
      refine xi_iload (pc' := 58) (x := x5) kc_45_56 rfl rfl ?_
      refine xi_aload_n (pc' := 59) (x := 115) kc_45_58 rfl rfl ?_
      obtain ⟨u1, u2, u3, u4, u5, u6, u7, u8, u9, u10, u11, u12, u13, bu1, bu2, bu3, bu4, bu5, bu6, bu7, bu8, bu9, bu10, bu11, bu12, bu13, A14⟩ := xq_115 K.1
      refine xi_getfield (pc' := 62) (v := .int u2) kc_45_59 rfl rfl rfl A14 rfl ?_
      by_cases c15 : u2.toInt < x5.toInt
      · refine xi_cmt (pc' := 221) kc_45_62 rfl (xc_gt_t (X := x5.toInt) (Y := u2.toInt) rfl rfl (by omega)) ?_
        refine xi_lload_n (pc' := 222) (x := w2) kc_45_221 rfl rfl ?_
        refine xi_lreturn kc_45_222 mr_45 ?_
        exact kk w2 h K
      · refine xi_cmf (pc' := 65) kc_45_62 rfl (xc_gt_f (X := x5.toInt) (Y := u2.toInt) rfl rfl (by omega)) ?_
        refine xw_lv (b := [(0, .ref 115), (1, .int x1), (2, .long w2), (4, .int x4), (5, .int x5)]) (lvS_cons (lvS_cons (lvS_cons (lvS_cons (lvS_cons (lvS_nil (show ([0, 1, 2, 4, 5] : List Nat).Nodup by decide)) rfl) rfl) rfl) rfl) rfl) ?_
        exact i3 x1 w2 x4 x5 h (by omega) (by omega) (by omega) K (by omega)
    · intro x1 w2 x4 x5 h b1 b4 b5 K hm
      refine xi_iload (pc' := 67) (x := x4) kc_45_65 rfl rfl ?_
      refine xi_aload_n (pc' := 68) (x := 115) kc_45_67 rfl rfl ?_
      obtain ⟨u1, u2, u3, u4, u5, u6, u7, u8, u9, u10, u11, u12, u13, bu1, bu2, bu3, bu4, bu5, bu6, bu7, bu8, bu9, bu10, bu11, bu12, bu13, A14⟩ := xq_115 K.1
      refine xi_getfield (pc' := 71) (v := .int u4) kc_45_68 rfl rfl rfl A14 rfl ?_
      by_cases c15 : u4.toInt ≤ x4.toInt
      · refine xi_cmt (pc' := 176) kc_45_71 rfl (xc_ge_t (X := x4.toInt) (Y := u4.toInt) rfl rfl (by omega)) ?_
        refine xi_iload (pc' := 178) (x := x5) kc_45_176 rfl rfl ?_
        refine xi_aload_n (pc' := 179) (x := 115) kc_45_178 rfl rfl ?_
        refine xi_getfield (pc' := 182) (v := .int u2) kc_45_179 rfl rfl rfl A14 rfl ?_
        by_cases c16 : u2.toInt ≤ x5.toInt
        · refine xi_cmt (pc' := 215) kc_45_182 rfl (xc_ge_t (X := x5.toInt) (Y := u2.toInt) rfl rfl (by omega)) ?_
          obtain ⟨v17, ev17⟩ : ∃ q : Int32, x5 + 1 = q := ⟨_, rfl⟩
          have zv17 : v17.toInt = (x5.toInt + 1) := by rw [← ev17]; exact (xz_add (X := x5.toInt) (Y := 1) rfl (by decide) (by omega) (by omega)).trans (by omega)
          refine xi_iinc (pc' := 218) (x := x5) (v := v17) (lv' := [(5, .int v17), (0, .ref 115), (1, .int x1), (2, .long w2), (4, .int x4)]) kc_45_215 rfl rfl ev17 rfl (xm_lt ml_45 rfl) ?_
          refine xi_goto (pc' := 56) kc_45_218 rfl ?_
          refine xw_lv (b := [(0, .ref 115), (1, .int x1), (2, .long w2), (4, .int x4), (5, .int v17)]) (lvS_cons (lvS_cons (lvS_cons (lvS_cons (lvS_cons (lvS_nil (show ([5, 0, 1, 2, 4] : List Nat).Nodup by decide)) rfl) rfl) rfl) rfl) rfl) ?_
          exact i2 x1 w2 x4 v17 h (by omega) (by omega) (by omega) K (by omega)
        · refine xi_cmf (pc' := 185) kc_45_182 rfl (xc_ge_f (X := x5.toInt) (Y := u2.toInt) rfl rfl (by omega)) ?_
          refine xi_aload_n (pc' := 186) (x := 115) kc_45_185 rfl rfl ?_
          refine xi_aload_n (pc' := 187) (x := 115) kc_45_186 rfl rfl ?_
          refine xi_getfield (pc' := 190) (v := .ref 150) kc_45_187 rfl rfl rfl A14 rfl ?_
          refine xi_iload (pc' := 192) (x := x5) kc_45_190 rfl rfl ?_
          obtain ⟨y18, A18, hy18, ry18⟩ := xk_arr K.1 xD_150
          obtain ⟨v19, ev19, bv19, dv19⟩ := xj_get hy18 ry18 (i := x5) (by omega) (by omega)
          refine xi_iaload (pc' := 193) (v := v19) kc_45_192 rfl A18 (by decide) rfl (xi_in (by omega) (by rw [hy18]; omega)) ev19 ?_
          refine xi_putfield (pc' := 196) (fs' := [.int u1, .int u2, .ref 116, .ref 117, .ref 118, .ref 119, .ref 120, .ref 121, .ref 122, .ref 123, .ref 124, .ref 125, .ref 126, .ref 127, .ref 128, .ref 129, .int u3, .ref 130, .int u4, .ref 131, .ref 132, .ref 133, .ref 134, .int u5, .ref 135, .ref 136, .ref 137, .ref 138, .ref 139, .ref 140, .ref 141, .ref 142, .int v19, .int u7, .int u8, .ref 143, .ref 144, .ref 145, .ref 146, .ref 147, .ref 148, .int u9, .ref 149, .ref 150, .ref 151, .int u10, .ref 152, .ref 153, .ref 154, .ref 155, .ref 156, .ref 157, .ref 158, .ref 159, .int u11, .ref 160, .int u12, .ref 161, .ref 162, .ref 163, .ref 164, .int u13, .ref 165, .ref 166]) kc_45_193 rfl rfl rfl A14 rfl rfl rfl (Nat.le_of_ble_eq_true rfl) rfl (fun hh21 eh20 => ?_)
          have K22 := xk_pf (k := 32) (v := v19) K (xk_wf (by decide +kernel)) xD_115 A14 rfl (by first | omega | decide) (by first | omega | decide) eh20 rfl
          refine xi_aload_n (pc' := 197) (x := 115) kc_45_196 rfl rfl ?_
          refine xi_aload_n (pc' := 198) (x := 115) kc_45_197 rfl rfl ?_
          refine xi_getfield (pc' := 201) (v := .ref 151) kc_45_198 rfl rfl rfl eh20.1 rfl ?_
          refine xi_iload (pc' := 203) (x := x5) kc_45_201 rfl rfl ?_
          obtain ⟨y23, A23, hy23, ry23⟩ := xk_arr K22.1 xD_151
          obtain ⟨v24, ev24, bv24, dv24⟩ := xj_get hy23 ry23 (i := x5) (by omega) (by omega)
          refine xi_iaload (pc' := 204) (v := v24) kc_45_203 rfl A23 (by decide) rfl (xi_in (by omega) (by rw [hy23]; omega)) ev24 ?_
          refine xi_putfield (pc' := 207) (fs' := [.int u1, .int u2, .ref 116, .ref 117, .ref 118, .ref 119, .ref 120, .ref 121, .ref 122, .ref 123, .ref 124, .ref 125, .ref 126, .ref 127, .ref 128, .ref 129, .int u3, .ref 130, .int u4, .ref 131, .ref 132, .ref 133, .ref 134, .int u5, .ref 135, .ref 136, .ref 137, .ref 138, .ref 139, .ref 140, .ref 141, .ref 142, .int v19, .int v24, .int u8, .ref 143, .ref 144, .ref 145, .ref 146, .ref 147, .ref 148, .int u9, .ref 149, .ref 150, .ref 151, .int u10, .ref 152, .ref 153, .ref 154, .ref 155, .ref 156, .ref 157, .ref 158, .ref 159, .int u11, .ref 160, .int u12, .ref 161, .ref 162, .ref 163, .ref 164, .int u13, .ref 165, .ref 166]) kc_45_204 rfl rfl rfl eh20.1 rfl rfl rfl (Nat.le_of_ble_eq_true rfl) rfl (fun hh26 eh25 => ?_)
          have K27 := xk_pf (k := 33) (v := v24) K22 (xk_wf (by decide +kernel)) xD_115 eh20.1 rfl (by first | omega | decide) (by first | omega | decide) eh25 rfl
          refine xi_aload_n (pc' := 208) (x := 115) kc_45_207 rfl rfl ?_
          refine xi_iload_n (pc' := 209) (x := x1) kc_45_208 rfl rfl ?_
          refine xi_iconst (pc' := 210) (v := 0) kc_45_209 rfl rfl ?_
          refine xi_iload (pc' := 212) (x := x5) kc_45_210 rfl rfl ?_
          refine xi_virtual (mj := 36) (as := [.int x1, .int 0, .int x5]) (st1 := []) (lv0 := [(0, .ref 115), (1, .int x1), (2, .int 0), (3, .int x5)]) kc_45_212 rfl rfl rfl rfl rfl eh25.1 (Nat.le_of_ble_eq_true rfl) (hJ _ _ _ _ (by decide)) (xm_le ml_36 rfl) rfl ?_
          have zc0 : (0 : Int32).toInt = 0 := by decide
          refine mt_36_0 hJ hov1 hov2 (d := d) (x1 := x1) (x2 := 0) (x3 := x5) K27.1 (by first | omega | decide) (by first | omega | decide) (by first | omega | decide) (fun hh29 K30 => ?_)
          have K31 := xk_tr K27 K30 (xsb_ok _ _ (by decide +kernel))
          obtain ⟨u32, u33, u34, u35, u36, u37, u38, u39, u40, u41, u42, u43, u44, bu32, bu33, bu34, bu35, bu36, bu37, bu38, bu39, bu40, bu41, bu42, bu43, bu44, A45⟩ := xq_115 K31.1
          have e46 : u2 = u33 := xk_eqi (q := 1) K30 (by decide +kernel) eh25.1 A45 rfl rfl
          subst e46
          have e47 : u5 = u36 := xk_eqi (q := 23) K30 (by decide +kernel) eh25.1 A45 rfl rfl
          subst e47
          have e48 : u8 = u39 := xk_eqi (q := 34) K30 (by decide +kernel) eh25.1 A45 rfl rfl
          subst e48
          have e49 : v19 = u37 := xk_eqi (q := 32) K30 (by decide +kernel) eh25.1 A45 rfl rfl
          subst e49
          show xw J ov (d + 5) 45 (215, [(0, .ref 115), (1, .int x1), (2, .long w2), (4, .int x4), (5, .int x5)], [], hh29) _
          obtain ⟨v50, ev50⟩ : ∃ q : Int32, x5 + 1 = q := ⟨_, rfl⟩
          have zv50 : v50.toInt = (x5.toInt + 1) := by rw [← ev50]; exact (xz_add (X := x5.toInt) (Y := 1) rfl (by decide) (by omega) (by omega)).trans (by omega)
          refine xi_iinc (pc' := 218) (x := x5) (v := v50) (lv' := [(5, .int v50), (0, .ref 115), (1, .int x1), (2, .long w2), (4, .int x4)]) kc_45_215 rfl rfl ev50 rfl (xm_lt ml_45 rfl) ?_
          refine xi_goto (pc' := 56) kc_45_218 rfl ?_
          refine xw_lv (b := [(0, .ref 115), (1, .int x1), (2, .long w2), (4, .int x4), (5, .int v50)]) (lvS_cons (lvS_cons (lvS_cons (lvS_cons (lvS_cons (lvS_nil (show ([5, 0, 1, 2, 4] : List Nat).Nodup by decide)) rfl) rfl) rfl) rfl) rfl) ?_
          exact i2 x1 w2 x4 v50 hh29 (by omega) (by omega) (by omega) K31 (by omega)
      · refine xi_cmf (pc' := 74) kc_45_71 rfl (xc_ge_f (X := x4.toInt) (Y := u4.toInt) rfl rfl (by omega)) ?_
        refine xi_aload_n (pc' := 75) (x := 115) kc_45_74 rfl rfl ?_
        refine xi_getfield (pc' := 78) (v := .ref 132) kc_45_75 rfl rfl rfl A14 rfl ?_
        refine xi_iload (pc' := 80) (x := x4) kc_45_78 rfl rfl ?_
        obtain ⟨y51, A51, hy51, ry51⟩ := xk_arr K.1 xD_132
        obtain ⟨v52, ev52, bv52, dv52⟩ := xj_get hy51 ry51 (i := x4) (by omega) (by omega)
        refine xi_iaload (pc' := 81) (v := v52) kc_45_80 rfl A51 (by decide) rfl (xi_in (by omega) (by rw [hy51]; omega)) ev52 ?_
        refine xi_iload (pc' := 83) (x := x5) kc_45_81 rfl rfl ?_
        by_cases c53 : v52.toInt = x5.toInt
        · refine xi_cmf (pc' := 86) kc_45_83 rfl (xc_ne_f (X := v52.toInt) (Y := x5.toInt) rfl rfl (by omega)) ?_
          refine xi_aload_n (pc' := 87) (x := 115) kc_45_86 rfl rfl ?_
          refine xi_getfield (pc' := 90) (v := .ref 142) kc_45_87 rfl rfl rfl A14 rfl ?_
          refine xi_aload_n (pc' := 91) (x := 115) kc_45_90 rfl rfl ?_
          refine xi_getfield (pc' := 94) (v := .ref 131) kc_45_91 rfl rfl rfl A14 rfl ?_
          refine xi_iload (pc' := 96) (x := x4) kc_45_94 rfl rfl ?_
          obtain ⟨y54, A54, hy54, ry54⟩ := xk_arr K.1 xD_131
          obtain ⟨v55, ev55, bv55, dv55⟩ := xj_get hy54 ry54 (i := x4) (by omega) (by omega)
          refine xi_iaload (pc' := 97) (v := v55) kc_45_96 rfl A54 (by decide) rfl (xi_in (by omega) (by rw [hy54]; omega)) ev55 ?_
          obtain ⟨y56, A56, hy56, ry56⟩ := xk_arr K.1 xD_142
          obtain ⟨v57, ev57, bv57, dv57⟩ := xj_get hy56 ry56 (i := v55) (by omega) (by omega)
          refine xi_iaload (pc' := 98) (v := v57) kc_45_97 rfl A56 (by decide) rfl (xi_in (by omega) (by rw [hy56]; omega)) ev57 ?_
          refine xi_istore (pc' := 100) (lv' := [(6, .int v57), (0, .ref 115), (1, .int x1), (2, .long w2), (4, .int x4), (5, .int x5)]) kc_45_98 rfl rfl (xm_lt ml_45 rfl) ?_
          refine xi_aload_n (pc' := 101) (x := 115) kc_45_100 rfl rfl ?_
          refine xi_getfield (pc' := 104) (v := .ref 133) kc_45_101 rfl rfl rfl A14 rfl ?_
          refine xi_iload (pc' := 106) (x := x4) kc_45_104 rfl rfl ?_
          obtain ⟨y58, A58, hy58, ry58⟩ := xk_arr K.1 xD_133
          obtain ⟨v59, ev59, bv59, dv59⟩ := xj_get hy58 ry58 (i := x4) (by omega) (by omega)
          refine xi_iaload (pc' := 107) (v := v59) kc_45_106 rfl A58 (by decide) rfl (xi_in (by omega) (by rw [hy58]; omega)) ev59 ?_
          refine xi_aload_n (pc' := 108) (x := 115) kc_45_107 rfl rfl ?_
          refine xi_getfield (pc' := 111) (v := .ref 134) kc_45_108 rfl rfl rfl A14 rfl ?_
          refine xi_iload (pc' := 113) (x := x4) kc_45_111 rfl rfl ?_
          obtain ⟨y60, A60, hy60, ry60⟩ := xk_arr K.1 xD_134
          obtain ⟨v61, ev61, bv61, dv61⟩ := xj_get hy60 ry60 (i := x4) (by omega) (by omega)
          refine xi_iaload (pc' := 114) (v := v61) kc_45_113 rfl A60 (by decide) rfl (xi_in (by omega) (by rw [hy60]; omega)) ev61 ?_
          obtain ⟨v62, ev62⟩ : ∃ q : Int32, (v59 : Int32) - v61 = q := ⟨_, rfl⟩
          have rv62 := xc_rng v62
          refine xi_isub (pc' := 115) (v := v62) kc_45_114 rfl ev62 ?_
          refine xi_istore (pc' := 117) (lv' := [(7, .int v62), (6, .int v57), (0, .ref 115), (1, .int x1), (2, .long w2), (4, .int x4), (5, .int x5)]) kc_45_115 rfl rfl (xm_lt ml_45 rfl) ?_
          refine xi_aload_n (pc' := 118) (x := 115) kc_45_117 rfl rfl ?_
          refine xi_getfield (pc' := 121) (v := .ref 133) kc_45_118 rfl rfl rfl A14 rfl ?_
          refine xi_iload (pc' := 123) (x := x4) kc_45_121 rfl rfl ?_
          refine xi_iaload (pc' := 124) (v := v59) kc_45_123 rfl A58 (by decide) rfl (xi_in (by omega) (by rw [hy58]; omega)) ev59 ?_
          refine xi_aload_n (pc' := 125) (x := 115) kc_45_124 rfl rfl ?_
          refine xi_getfield (pc' := 128) (v := .ref 134) kc_45_125 rfl rfl rfl A14 rfl ?_
          refine xi_iload (pc' := 130) (x := x4) kc_45_128 rfl rfl ?_
          refine xi_iaload (pc' := 131) (v := v61) kc_45_130 rfl A60 (by decide) rfl (xi_in (by omega) (by rw [hy60]; omega)) ev61 ?_
          obtain ⟨v63, ev63⟩ : ∃ q : Int32, (v59 : Int32) + v61 = q := ⟨_, rfl⟩
          have rv63 := xc_rng v63
          refine xi_iadd (pc' := 132) (v := v63) kc_45_131 rfl ev63 ?_
          refine xi_istore (pc' := 134) (lv' := [(8, .int v63), (7, .int v62), (6, .int v57), (0, .ref 115), (1, .int x1), (2, .long w2), (4, .int x4), (5, .int x5)]) kc_45_132 rfl rfl (xm_lt ml_45 rfl) ?_
          refine xi_lload_n (pc' := 135) (x := w2) kc_45_134 rfl rfl ?_
          refine xi_iload (pc' := 137) (x := v57) kc_45_135 rfl rfl ?_
          refine xi_iload (pc' := 139) (x := v62) kc_45_137 rfl rfl ?_
          by_cases c64 : v62.toInt ≤ v57.toInt
          · refine xi_cmt (pc' := 151) kc_45_139 rfl (xc_ge_t (X := v57.toInt) (Y := v62.toInt) rfl rfl (by omega)) ?_
            refine xi_iload (pc' := 153) (x := v57) kc_45_151 rfl rfl ?_
            refine xi_iload (pc' := 155) (x := v63) kc_45_153 rfl rfl ?_
            by_cases c65 : v57.toInt ≤ v63.toInt
            · refine xi_cmt (pc' := 167) kc_45_155 rfl (xc_le_t (X := v57.toInt) (Y := v63.toInt) rfl rfl (by omega)) ?_
              refine xi_lconst (pc' := 168) (v := 0) kc_45_167 rfl rfl ?_
              obtain ⟨v66, ev66⟩ : ∃ q : Int64, (w2 : Int64) + 0 = q := ⟨_, rfl⟩
              refine xi_ladd (pc' := 169) (v := v66) kc_45_168 rfl ev66 ?_
              refine xi_lstore_n (pc' := 170) (lv' := [(2, .long v66), (8, .int v63), (7, .int v62), (6, .int v57), (0, .ref 115), (1, .int x1), (4, .int x4), (5, .int x5)]) kc_45_169 rfl rfl (xm_lt ml_45 rfl) ?_
              obtain ⟨v67, ev67⟩ : ∃ q : Int32, x4 + 1 = q := ⟨_, rfl⟩
              have zv67 : v67.toInt = (x4.toInt + 1) := by rw [← ev67]; exact (xz_add (X := x4.toInt) (Y := 1) rfl (by decide) (by omega) (by omega)).trans (by omega)
              refine xi_iinc (pc' := 173) (x := x4) (v := v67) (lv' := [(4, .int v67), (2, .long v66), (8, .int v63), (7, .int v62), (6, .int v57), (0, .ref 115), (1, .int x1), (5, .int x5)]) kc_45_170 rfl rfl ev67 rfl (xm_lt ml_45 rfl) ?_
              refine xi_goto (pc' := 65) kc_45_173 rfl ?_
              refine xw_lv (b := [(0, .ref 115), (1, .int x1), (2, .long v66), (4, .int v67), (5, .int x5)]) (lvS_cons (lvS_cons (lvS_cons (lvS_cons (lvS_cons (lvS_nil (show ([4, 2, 8, 7, 6, 0, 1, 5] : List Nat).Nodup by decide)) rfl) rfl) rfl) rfl) rfl) ?_
              exact i3 x1 v66 v67 x5 h (by omega) (by omega) (by omega) K (by omega)
            · refine xi_cmf (pc' := 158) kc_45_155 rfl (xc_le_f (X := v57.toInt) (Y := v63.toInt) rfl rfl (by omega)) ?_
              refine xi_iload (pc' := 160) (x := v57) kc_45_158 rfl rfl ?_
              refine xi_iload (pc' := 162) (x := v63) kc_45_160 rfl rfl ?_
              obtain ⟨v68, ev68⟩ : ∃ q : Int32, (v57 : Int32) - v63 = q := ⟨_, rfl⟩
              have rv68 := xc_rng v68
              refine xi_isub (pc' := 163) (v := v68) kc_45_162 rfl ev68 ?_
              obtain ⟨v69, ev69⟩ : ∃ q, (v68 : Int32).toInt64 = q := ⟨_, rfl⟩
              refine xi_i2l (pc' := 164) (v := v69) kc_45_163 rfl ev69 ?_
              refine xi_goto (pc' := 168) kc_45_164 rfl ?_
              obtain ⟨v70, ev70⟩ : ∃ q : Int64, (w2 : Int64) + v69 = q := ⟨_, rfl⟩
              refine xi_ladd (pc' := 169) (v := v70) kc_45_168 rfl ev70 ?_
              refine xi_lstore_n (pc' := 170) (lv' := [(2, .long v70), (8, .int v63), (7, .int v62), (6, .int v57), (0, .ref 115), (1, .int x1), (4, .int x4), (5, .int x5)]) kc_45_169 rfl rfl (xm_lt ml_45 rfl) ?_
              obtain ⟨v71, ev71⟩ : ∃ q : Int32, x4 + 1 = q := ⟨_, rfl⟩
              have zv71 : v71.toInt = (x4.toInt + 1) := by rw [← ev71]; exact (xz_add (X := x4.toInt) (Y := 1) rfl (by decide) (by omega) (by omega)).trans (by omega)
              refine xi_iinc (pc' := 173) (x := x4) (v := v71) (lv' := [(4, .int v71), (2, .long v70), (8, .int v63), (7, .int v62), (6, .int v57), (0, .ref 115), (1, .int x1), (5, .int x5)]) kc_45_170 rfl rfl ev71 rfl (xm_lt ml_45 rfl) ?_
              refine xi_goto (pc' := 65) kc_45_173 rfl ?_
              refine xw_lv (b := [(0, .ref 115), (1, .int x1), (2, .long v70), (4, .int v71), (5, .int x5)]) (lvS_cons (lvS_cons (lvS_cons (lvS_cons (lvS_cons (lvS_nil (show ([4, 2, 8, 7, 6, 0, 1, 5] : List Nat).Nodup by decide)) rfl) rfl) rfl) rfl) rfl) ?_
              exact i3 x1 v70 v71 x5 h (by omega) (by omega) (by omega) K (by omega)
          · refine xi_cmf (pc' := 142) kc_45_139 rfl (xc_ge_f (X := v57.toInt) (Y := v62.toInt) rfl rfl (by omega)) ?_
            refine xi_iload (pc' := 144) (x := v62) kc_45_142 rfl rfl ?_
            refine xi_iload (pc' := 146) (x := v57) kc_45_144 rfl rfl ?_
            obtain ⟨v72, ev72⟩ : ∃ q : Int32, (v62 : Int32) - v57 = q := ⟨_, rfl⟩
            have rv72 := xc_rng v72
            refine xi_isub (pc' := 147) (v := v72) kc_45_146 rfl ev72 ?_
            obtain ⟨v73, ev73⟩ : ∃ q, (v72 : Int32).toInt64 = q := ⟨_, rfl⟩
            refine xi_i2l (pc' := 148) (v := v73) kc_45_147 rfl ev73 ?_
            refine xi_goto (pc' := 168) kc_45_148 rfl ?_
            obtain ⟨v74, ev74⟩ : ∃ q : Int64, (w2 : Int64) + v73 = q := ⟨_, rfl⟩
            refine xi_ladd (pc' := 169) (v := v74) kc_45_168 rfl ev74 ?_
            refine xi_lstore_n (pc' := 170) (lv' := [(2, .long v74), (8, .int v63), (7, .int v62), (6, .int v57), (0, .ref 115), (1, .int x1), (4, .int x4), (5, .int x5)]) kc_45_169 rfl rfl (xm_lt ml_45 rfl) ?_
            obtain ⟨v75, ev75⟩ : ∃ q : Int32, x4 + 1 = q := ⟨_, rfl⟩
            have zv75 : v75.toInt = (x4.toInt + 1) := by rw [← ev75]; exact (xz_add (X := x4.toInt) (Y := 1) rfl (by decide) (by omega) (by omega)).trans (by omega)
            refine xi_iinc (pc' := 173) (x := x4) (v := v75) (lv' := [(4, .int v75), (2, .long v74), (8, .int v63), (7, .int v62), (6, .int v57), (0, .ref 115), (1, .int x1), (5, .int x5)]) kc_45_170 rfl rfl ev75 rfl (xm_lt ml_45 rfl) ?_
            refine xi_goto (pc' := 65) kc_45_173 rfl ?_
            refine xw_lv (b := [(0, .ref 115), (1, .int x1), (2, .long v74), (4, .int v75), (5, .int x5)]) (lvS_cons (lvS_cons (lvS_cons (lvS_cons (lvS_cons (lvS_nil (show ([4, 2, 8, 7, 6, 0, 1, 5] : List Nat).Nodup by decide)) rfl) rfl) rfl) rfl) rfl) ?_
            exact i3 x1 v74 v75 x5 h (by omega) (by omega) (by omega) K (by omega)
        · refine xi_cmt (pc' := 176) kc_45_83 rfl (xc_ne_t (X := v52.toInt) (Y := x5.toInt) rfl rfl (by omega)) ?_
          refine xi_iload (pc' := 178) (x := x5) kc_45_176 rfl rfl ?_
          refine xi_aload_n (pc' := 179) (x := 115) kc_45_178 rfl rfl ?_
          refine xi_getfield (pc' := 182) (v := .int u2) kc_45_179 rfl rfl rfl A14 rfl ?_
          by_cases c76 : u2.toInt ≤ x5.toInt
          · refine xi_cmt (pc' := 215) kc_45_182 rfl (xc_ge_t (X := x5.toInt) (Y := u2.toInt) rfl rfl (by omega)) ?_
            obtain ⟨v77, ev77⟩ : ∃ q : Int32, x5 + 1 = q := ⟨_, rfl⟩
            have zv77 : v77.toInt = (x5.toInt + 1) := by rw [← ev77]; exact (xz_add (X := x5.toInt) (Y := 1) rfl (by decide) (by omega) (by omega)).trans (by omega)
            refine xi_iinc (pc' := 218) (x := x5) (v := v77) (lv' := [(5, .int v77), (0, .ref 115), (1, .int x1), (2, .long w2), (4, .int x4)]) kc_45_215 rfl rfl ev77 rfl (xm_lt ml_45 rfl) ?_
            refine xi_goto (pc' := 56) kc_45_218 rfl ?_
            refine xw_lv (b := [(0, .ref 115), (1, .int x1), (2, .long w2), (4, .int x4), (5, .int v77)]) (lvS_cons (lvS_cons (lvS_cons (lvS_cons (lvS_cons (lvS_nil (show ([5, 0, 1, 2, 4] : List Nat).Nodup by decide)) rfl) rfl) rfl) rfl) rfl) ?_
            exact i2 x1 w2 x4 v77 h (by omega) (by omega) (by omega) K (by omega)
          · refine xi_cmf (pc' := 185) kc_45_182 rfl (xc_ge_f (X := x5.toInt) (Y := u2.toInt) rfl rfl (by omega)) ?_
            refine xi_aload_n (pc' := 186) (x := 115) kc_45_185 rfl rfl ?_
            refine xi_aload_n (pc' := 187) (x := 115) kc_45_186 rfl rfl ?_
            refine xi_getfield (pc' := 190) (v := .ref 150) kc_45_187 rfl rfl rfl A14 rfl ?_
            refine xi_iload (pc' := 192) (x := x5) kc_45_190 rfl rfl ?_
            obtain ⟨y78, A78, hy78, ry78⟩ := xk_arr K.1 xD_150
            obtain ⟨v79, ev79, bv79, dv79⟩ := xj_get hy78 ry78 (i := x5) (by omega) (by omega)
            refine xi_iaload (pc' := 193) (v := v79) kc_45_192 rfl A78 (by decide) rfl (xi_in (by omega) (by rw [hy78]; omega)) ev79 ?_
            refine xi_putfield (pc' := 196) (fs' := [.int u1, .int u2, .ref 116, .ref 117, .ref 118, .ref 119, .ref 120, .ref 121, .ref 122, .ref 123, .ref 124, .ref 125, .ref 126, .ref 127, .ref 128, .ref 129, .int u3, .ref 130, .int u4, .ref 131, .ref 132, .ref 133, .ref 134, .int u5, .ref 135, .ref 136, .ref 137, .ref 138, .ref 139, .ref 140, .ref 141, .ref 142, .int v79, .int u7, .int u8, .ref 143, .ref 144, .ref 145, .ref 146, .ref 147, .ref 148, .int u9, .ref 149, .ref 150, .ref 151, .int u10, .ref 152, .ref 153, .ref 154, .ref 155, .ref 156, .ref 157, .ref 158, .ref 159, .int u11, .ref 160, .int u12, .ref 161, .ref 162, .ref 163, .ref 164, .int u13, .ref 165, .ref 166]) kc_45_193 rfl rfl rfl A14 rfl rfl rfl (Nat.le_of_ble_eq_true rfl) rfl (fun hh81 eh80 => ?_)
            have K82 := xk_pf (k := 32) (v := v79) K (xk_wf (by decide +kernel)) xD_115 A14 rfl (by first | omega | decide) (by first | omega | decide) eh80 rfl
            refine xi_aload_n (pc' := 197) (x := 115) kc_45_196 rfl rfl ?_
            refine xi_aload_n (pc' := 198) (x := 115) kc_45_197 rfl rfl ?_
            refine xi_getfield (pc' := 201) (v := .ref 151) kc_45_198 rfl rfl rfl eh80.1 rfl ?_
            refine xi_iload (pc' := 203) (x := x5) kc_45_201 rfl rfl ?_
            obtain ⟨y83, A83, hy83, ry83⟩ := xk_arr K82.1 xD_151
            obtain ⟨v84, ev84, bv84, dv84⟩ := xj_get hy83 ry83 (i := x5) (by omega) (by omega)
            refine xi_iaload (pc' := 204) (v := v84) kc_45_203 rfl A83 (by decide) rfl (xi_in (by omega) (by rw [hy83]; omega)) ev84 ?_
            refine xi_putfield (pc' := 207) (fs' := [.int u1, .int u2, .ref 116, .ref 117, .ref 118, .ref 119, .ref 120, .ref 121, .ref 122, .ref 123, .ref 124, .ref 125, .ref 126, .ref 127, .ref 128, .ref 129, .int u3, .ref 130, .int u4, .ref 131, .ref 132, .ref 133, .ref 134, .int u5, .ref 135, .ref 136, .ref 137, .ref 138, .ref 139, .ref 140, .ref 141, .ref 142, .int v79, .int v84, .int u8, .ref 143, .ref 144, .ref 145, .ref 146, .ref 147, .ref 148, .int u9, .ref 149, .ref 150, .ref 151, .int u10, .ref 152, .ref 153, .ref 154, .ref 155, .ref 156, .ref 157, .ref 158, .ref 159, .int u11, .ref 160, .int u12, .ref 161, .ref 162, .ref 163, .ref 164, .int u13, .ref 165, .ref 166]) kc_45_204 rfl rfl rfl eh80.1 rfl rfl rfl (Nat.le_of_ble_eq_true rfl) rfl (fun hh86 eh85 => ?_)
            have K87 := xk_pf (k := 33) (v := v84) K82 (xk_wf (by decide +kernel)) xD_115 eh80.1 rfl (by first | omega | decide) (by first | omega | decide) eh85 rfl
            refine xi_aload_n (pc' := 208) (x := 115) kc_45_207 rfl rfl ?_
            refine xi_iload_n (pc' := 209) (x := x1) kc_45_208 rfl rfl ?_
            refine xi_iconst (pc' := 210) (v := 0) kc_45_209 rfl rfl ?_
            refine xi_iload (pc' := 212) (x := x5) kc_45_210 rfl rfl ?_
            refine xi_virtual (mj := 36) (as := [.int x1, .int 0, .int x5]) (st1 := []) (lv0 := [(0, .ref 115), (1, .int x1), (2, .int 0), (3, .int x5)]) kc_45_212 rfl rfl rfl rfl rfl eh85.1 (Nat.le_of_ble_eq_true rfl) (hJ _ _ _ _ (by decide)) (xm_le ml_36 rfl) rfl ?_
            have zc0 : (0 : Int32).toInt = 0 := by decide
            refine mt_36_0 hJ hov1 hov2 (d := d) (x1 := x1) (x2 := 0) (x3 := x5) K87.1 (by first | omega | decide) (by first | omega | decide) (by first | omega | decide) (fun hh89 K90 => ?_)
            have K91 := xk_tr K87 K90 (xsb_ok _ _ (by decide +kernel))
            obtain ⟨u92, u93, u94, u95, u96, u97, u98, u99, u100, u101, u102, u103, u104, bu92, bu93, bu94, bu95, bu96, bu97, bu98, bu99, bu100, bu101, bu102, bu103, bu104, A105⟩ := xq_115 K91.1
            have e106 : u2 = u93 := xk_eqi (q := 1) K90 (by decide +kernel) eh85.1 A105 rfl rfl
            subst e106
            have e107 : u5 = u96 := xk_eqi (q := 23) K90 (by decide +kernel) eh85.1 A105 rfl rfl
            subst e107
            have e108 : u8 = u99 := xk_eqi (q := 34) K90 (by decide +kernel) eh85.1 A105 rfl rfl
            subst e108
            have e109 : v79 = u97 := xk_eqi (q := 32) K90 (by decide +kernel) eh85.1 A105 rfl rfl
            subst e109
            show xw J ov (d + 5) 45 (215, [(0, .ref 115), (1, .int x1), (2, .long w2), (4, .int x4), (5, .int x5)], [], hh89) _
            obtain ⟨v110, ev110⟩ : ∃ q : Int32, x5 + 1 = q := ⟨_, rfl⟩
            have zv110 : v110.toInt = (x5.toInt + 1) := by rw [← ev110]; exact (xz_add (X := x5.toInt) (Y := 1) rfl (by decide) (by omega) (by omega)).trans (by omega)
            refine xi_iinc (pc' := 218) (x := x5) (v := v110) (lv' := [(5, .int v110), (0, .ref 115), (1, .int x1), (2, .long w2), (4, .int x4)]) kc_45_215 rfl rfl ev110 rfl (xm_lt ml_45 rfl) ?_
            refine xi_goto (pc' := 56) kc_45_218 rfl ?_
            refine xw_lv (b := [(0, .ref 115), (1, .int x1), (2, .long w2), (4, .int x4), (5, .int v110)]) (lvS_cons (lvS_cons (lvS_cons (lvS_cons (lvS_cons (lvS_nil (show ([5, 0, 1, 2, 4] : List Nat).Nodup by decide)) rfl) rfl) rfl) rfl) rfl) ?_
            exact i2 x1 w2 x4 v110 hh89 (by omega) (by omega) (by omega) K91 (by omega)
set_option maxHeartbeats 4000000 in
theorem mt_45_0 {J : xe_J} {ov : List (List Int32)} (hJ : ∀ d mj as h, mj ≠ xe_loff → J d mj as h = none) (hov1 : ov[1]? = some [10, 0, 0, 0, 0, 0]) (hov2 : ov[2]? = some [99, 30, 50, 50, 1, 99999]) {d : Nat} {Q : Option Value → xe_H → Prop} {h : xe_H} {x1 : Int32} (T : xt h) (b1 : (0 ≤ x1.toInt ∧ x1.toInt ≤ 63)) (kk : (∀ (r : Int64) (h' : xe_H), xk xP_17 h h' → Q (some (.long r)) h')) : xw J ov (d + 5) 45 (0, [(0, .ref 115), (1, .int x1)], [], h) Q := by
  have K : xk xP_17 h h := xk_re T
  refine xi_lconst (pc' := 1) (v := 0) kc_45_0 rfl rfl ?_
  refine xi_lstore_n (pc' := 2) (lv' := [(2, .long 0), (0, .ref 115), (1, .int x1)]) kc_45_1 rfl rfl (xm_lt ml_45 rfl) ?_
  refine xi_iconst (pc' := 3) (v := 0) kc_45_2 rfl rfl ?_
  refine xi_istore (pc' := 5) (lv' := [(4, .int 0), (2, .long 0), (0, .ref 115), (1, .int x1)]) kc_45_3 rfl rfl (xm_lt ml_45 rfl) ?_
  refine xi_iconst (pc' := 6) (v := 0) kc_45_5 rfl rfl ?_
  refine xi_istore (pc' := 8) (lv' := [(5, .int 0), (4, .int 0), (2, .long 0), (0, .ref 115), (1, .int x1)]) kc_45_6 rfl rfl (xm_lt ml_45 rfl) ?_
  have zc0 : (0 : Int32).toInt = 0 := by decide
  refine xw_lv (b := [(0, .ref 115), (1, .int x1), (2, .long 0), (4, .int 0), (5, .int 0)]) (lvS_cons (lvS_cons (lvS_cons (lvS_cons (lvS_cons (lvS_nil (show ([5, 4, 2, 0, 1] : List Nat).Nodup by decide)) rfl) rfl) rfl) rfl) rfl) ?_
  exact (lp_45_0 hJ hov1 hov2 (d := d) (hb := h) (fun r9 h9 K9 => kk r9 h9 (xk_tr K K9 (xsb_ok _ _ (by decide +kernel)))) 37344).1 x1 0 0 0 h (by omega) (by omega) (by omega) (xk_re K.1) (by omega)
