set_option maxHeartbeats 4000000 in
theorem lp_43_0 {J : xe_J} {ov : List (List Int32)} (hJ : ∀ d mj as h, mj ≠ xe_loff → J d mj as h = none) (hov1 : ov[1]? = some [10, 0, 0, 0, 0, 0]) (hov2 : ov[2]? = some [99, 30, 50, 50, 1, 99999]) {d : Nat} {Q : Option Value → xe_H → Prop} {hb : xe_H} (kk : (∀ h' : xe_H, xk xP_17 hb h' → Q none h')) : ∀ m : Nat, (∀ (x1 : Int32) (h : xe_H), (0 ≤ x1.toInt ∧ x1.toInt ≤ 64) → xk xP_17 hb h → (-1) * x1.toInt + 64 < (m : Int) → xw J ov (d + 6) 43 (19, [(0, .ref 115), (1, .int x1)], [], h) Q) := by
  intro m
  induction m with
  | zero =>
    intro x1 h b1 K hm; exfalso; omega
  | succ m ih =>
    have i0 := ih
    intro x1 h b1 K hm
    refine xi_iload_n (pc' := 20) (x := x1) kc_43_19 rfl rfl ?_
    refine xi_aload_n (pc' := 21) (x := 115) kc_43_20 rfl rfl ?_
    obtain ⟨u1, u2, u3, u4, u5, u6, u7, u8, u9, u10, u11, u12, u13, bu1, bu2, bu3, bu4, bu5, bu6, bu7, bu8, bu9, bu10, bu11, bu12, bu13, A14⟩ := xq_115 K.1
    refine xi_virtual (mj := 42) (as := []) (st1 := [.int x1]) (lv0 := [(0, .ref 115)]) kc_43_21 rfl rfl rfl rfl rfl A14 (Nat.le_of_ble_eq_true rfl) (hJ _ _ _ _ (by decide)) (xm_le ml_42 rfl) rfl ?_
    refine xi_iconst (pc' := 1) (v := 1) kc_42_0 rfl rfl ?_
    refine xi_aload_n (pc' := 2) (x := 115) kc_42_1 rfl rfl ?_
    refine xi_getfield (pc' := 5) (v := .int u5) kc_42_2 rfl rfl rfl A14 rfl ?_
    refine xi_bipush (pc' := 7) (v := 6) kc_42_5 rfl rfl ?_
    by_cases c15 : 6 ≤ u5.toInt
    · refine xi_cmt (pc' := 17) kc_42_7 rfl (xc_ge_t (X := u5.toInt) (Y := 6) rfl (by decide) (by omega)) ?_
      refine xi_bipush (pc' := 19) (v := 6) kc_42_17 rfl rfl ?_
      refine xi_ishl (pc' := 20) (v := 64) kc_42_19 rfl rfl ?_
      refine xi_ireturn kc_42_20 mr_42 rfl ?_
      show xw J ov (d + 6) 43 (24, [(0, .ref 115), (1, .int x1)], [.int 64, .int x1], h) _
      by_cases c16 : 64 ≤ x1.toInt
      · refine xi_cmt (pc' := 44) kc_43_24 rfl (xc_ge_t (X := x1.toInt) (Y := 64) rfl (by decide) (by omega)) ?_
        refine xi_return kc_43_44 mr_43 ?_
        exact kk h K
      · refine xi_cmf (pc' := 27) kc_43_24 rfl (xc_ge_f (X := x1.toInt) (Y := 64) rfl (by decide) (by omega)) ?_
        refine xi_aload_n (pc' := 28) (x := 115) kc_43_27 rfl rfl ?_
        refine xi_getfield (pc' := 31) (v := .ref 149) kc_43_28 rfl rfl rfl A14 rfl ?_
        refine xi_iload_n (pc' := 32) (x := x1) kc_43_31 rfl rfl ?_
        refine xi_aload_n (pc' := 33) (x := 115) kc_43_32 rfl rfl ?_
        refine xi_iload_n (pc' := 34) (x := x1) kc_43_33 rfl rfl ?_
        refine xi_virtual (mj := 45) (as := [.int x1]) (st1 := [.int x1, .ref 149]) (lv0 := [(0, .ref 115), (1, .int x1)]) kc_43_34 rfl rfl rfl rfl rfl A14 (Nat.le_of_ble_eq_true rfl) (hJ _ _ _ _ (by decide)) (xm_le ml_45 rfl) rfl ?_
        refine mt_45_0 hJ hov1 hov2 (d := d) (x1 := x1) K.1 (by first | omega | decide) (fun r17 hh18 K19 => ?_)
        have K20 := xk_tr K K19 (xsb_ok _ _ (by decide +kernel))
        obtain ⟨u21, u22, u23, u24, u25, u26, u27, u28, u29, u30, u31, u32, u33, bu21, bu22, bu23, bu24, bu25, bu26, bu27, bu28, bu29, bu30, bu31, bu32, bu33, A34⟩ := xq_115 K20.1
        have e35 : u2 = u22 := xk_eqi (q := 1) K19 (by decide +kernel) A14 A34 rfl rfl
        subst e35
        have e36 : u5 = u25 := xk_eqi (q := 23) K19 (by decide +kernel) A14 A34 rfl rfl
        subst e36
        have e37 : u8 = u28 := xk_eqi (q := 34) K19 (by decide +kernel) A14 A34 rfl rfl
        subst e37
        show xw J ov (d + 6) 43 (37, [(0, .ref 115), (1, .int x1)], [.long r17, .int x1, .ref 149], hh18) _
        obtain ⟨y38, A38, hy38⟩ := xk_larr K20.1 xD_149
        obtain ⟨y39, s39, hy39⟩ := xj_lset (v := r17) hy38 x1
        refine xi_lastore (pc' := 38) (x' := y39) kc_43_37 rfl A38 rfl (xi_in (by omega) (by rw [hy38]; omega)) s39 (fun hh39 eh39 => ?_)
        have K40 := xk_pla K20 (xk_wa (by decide +kernel)) xD_149 hy39 eh39
        obtain ⟨v41, ev41⟩ : ∃ q : Int32, x1 + 1 = q := ⟨_, rfl⟩
        have zv41 : v41.toInt = (x1.toInt + 1) := by rw [← ev41]; exact (xz_add (X := x1.toInt) (Y := 1) rfl (by decide) (by omega) (by omega)).trans (by omega)
        refine xi_iinc (pc' := 41) (x := x1) (v := v41) (lv' := [(1, .int v41), (0, .ref 115)]) kc_43_38 rfl rfl ev41 rfl (xm_lt ml_43 rfl) ?_
        refine xi_goto (pc' := 19) kc_43_41 rfl ?_
        refine xw_lv (b := [(0, .ref 115), (1, .int v41)]) (lvS_cons (lvS_cons (lvS_nil (show ([1, 0] : List Nat).Nodup by decide)) rfl) rfl) ?_
        exact i0 v41 hh39 (by omega) K40 (by omega)
    · refine xi_cmf (pc' := 10) kc_42_7 rfl (xc_ge_f (X := u5.toInt) (Y := 6) rfl (by decide) (by omega)) ?_
      refine xi_aload_n (pc' := 11) (x := 115) kc_42_10 rfl rfl ?_
      refine xi_getfield (pc' := 14) (v := .int u5) kc_42_11 rfl rfl rfl A14 rfl ?_
      refine xi_goto (pc' := 19) kc_42_14 rfl ?_
      obtain ⟨v42, ev42⟩ : ∃ q : Int32, (1 : Int32) <<< (u5 &&& 31) = q := ⟨_, rfl⟩
      have rv42 := xc_rng v42
      have bv42 : 1 ≤ v42.toInt ∧ v42.toInt ≤ 64 := by rw [← ev42]; exact xj_shl6 (by omega) (by omega)
      refine xi_ishl (pc' := 20) (v := v42) kc_42_19 rfl ev42 ?_
      refine xi_ireturn kc_42_20 mr_42 rfl ?_
      show xw J ov (d + 6) 43 (24, [(0, .ref 115), (1, .int x1)], [.int v42, .int x1], h) _
      by_cases c43 : v42.toInt ≤ x1.toInt
      · refine xi_cmt (pc' := 44) kc_43_24 rfl (xc_ge_t (X := x1.toInt) (Y := v42.toInt) rfl rfl (by omega)) ?_
        refine xi_return kc_43_44 mr_43 ?_
        exact kk h K
      · refine xi_cmf (pc' := 27) kc_43_24 rfl (xc_ge_f (X := x1.toInt) (Y := v42.toInt) rfl rfl (by omega)) ?_
        refine xi_aload_n (pc' := 28) (x := 115) kc_43_27 rfl rfl ?_
        refine xi_getfield (pc' := 31) (v := .ref 149) kc_43_28 rfl rfl rfl A14 rfl ?_
        refine xi_iload_n (pc' := 32) (x := x1) kc_43_31 rfl rfl ?_
        refine xi_aload_n (pc' := 33) (x := 115) kc_43_32 rfl rfl ?_
        refine xi_iload_n (pc' := 34) (x := x1) kc_43_33 rfl rfl ?_
        refine xi_virtual (mj := 45) (as := [.int x1]) (st1 := [.int x1, .ref 149]) (lv0 := [(0, .ref 115), (1, .int x1)]) kc_43_34 rfl rfl rfl rfl rfl A14 (Nat.le_of_ble_eq_true rfl) (hJ _ _ _ _ (by decide)) (xm_le ml_45 rfl) rfl ?_
        refine mt_45_0 hJ hov1 hov2 (d := d) (x1 := x1) K.1 (by first | omega | decide) (fun r44 hh45 K46 => ?_)
        have K47 := xk_tr K K46 (xsb_ok _ _ (by decide +kernel))
        obtain ⟨u48, u49, u50, u51, u52, u53, u54, u55, u56, u57, u58, u59, u60, bu48, bu49, bu50, bu51, bu52, bu53, bu54, bu55, bu56, bu57, bu58, bu59, bu60, A61⟩ := xq_115 K47.1
        have e62 : u2 = u49 := xk_eqi (q := 1) K46 (by decide +kernel) A14 A61 rfl rfl
        subst e62
        have e63 : u5 = u52 := xk_eqi (q := 23) K46 (by decide +kernel) A14 A61 rfl rfl
        subst e63
        have e64 : u8 = u55 := xk_eqi (q := 34) K46 (by decide +kernel) A14 A61 rfl rfl
        subst e64
        show xw J ov (d + 6) 43 (37, [(0, .ref 115), (1, .int x1)], [.long r44, .int x1, .ref 149], hh45) _
        obtain ⟨y65, A65, hy65⟩ := xk_larr K47.1 xD_149
        obtain ⟨y66, s66, hy66⟩ := xj_lset (v := r44) hy65 x1
        refine xi_lastore (pc' := 38) (x' := y66) kc_43_37 rfl A65 rfl (xi_in (by omega) (by rw [hy65]; omega)) s66 (fun hh66 eh66 => ?_)
        have K67 := xk_pla K47 (xk_wa (by decide +kernel)) xD_149 hy66 eh66
        obtain ⟨v68, ev68⟩ : ∃ q : Int32, x1 + 1 = q := ⟨_, rfl⟩
        have zv68 : v68.toInt = (x1.toInt + 1) := by rw [← ev68]; exact (xz_add (X := x1.toInt) (Y := 1) rfl (by decide) (by omega) (by omega)).trans (by omega)
        refine xi_iinc (pc' := 41) (x := x1) (v := v68) (lv' := [(1, .int v68), (0, .ref 115)]) kc_43_38 rfl rfl ev68 rfl (xm_lt ml_43 rfl) ?_
        refine xi_goto (pc' := 19) kc_43_41 rfl ?_
        refine xw_lv (b := [(0, .ref 115), (1, .int v68)]) (lvS_cons (lvS_cons (lvS_nil (show ([1, 0] : List Nat).Nodup by decide)) rfl) rfl) ?_
        exact i0 v68 hh66 (by omega) K67 (by omega)
set_option maxHeartbeats 4000000 in
theorem mt_43_0 {J : xe_J} {ov : List (List Int32)} (hJ : ∀ d mj as h, mj ≠ xe_loff → J d mj as h = none) (hov1 : ov[1]? = some [10, 0, 0, 0, 0, 0]) (hov2 : ov[2]? = some [99, 30, 50, 50, 1, 99999]) {d : Nat} {Q : Option Value → xe_H → Prop} {h : xe_H} (T : xt h) (kk : (∀ h' : xe_H, xk xP_17 h h' → Q none h')) : xw J ov (d + 6) 43 (0, [(0, .ref 115)], [], h) Q := by
  have K : xk xP_17 h h := xk_re T
  refine xi_aload_n (pc' := 1) (x := 115) kc_43_0 rfl rfl ?_
  obtain ⟨u1, u2, u3, u4, u5, u6, u7, u8, u9, u10, u11, u12, u13, bu1, bu2, bu3, bu4, bu5, bu6, bu7, bu8, bu9, bu10, bu11, bu12, bu13, A14⟩ := xq_115 K.1
  refine xi_getfield (pc' := 4) (v := .int u9) kc_43_1 rfl rfl rfl A14 rfl ?_
  by_cases c15 : u9.toInt = 0
  · refine xi_ift (pc' := 8) kc_43_4 rfl (xc_eq_t (X := u9.toInt) (Y := 0) rfl (by decide) (by omega)) ?_
    refine xi_aload_n (pc' := 9) (x := 115) kc_43_8 rfl rfl ?_
    refine xi_iconst (pc' := 10) (v := 1) kc_43_9 rfl rfl ?_
    refine xi_putfield (pc' := 13) (fs' := [.int u1, .int u2, .ref 116, .ref 117, .ref 118, .ref 119, .ref 120, .ref 121, .ref 122, .ref 123, .ref 124, .ref 125, .ref 126, .ref 127, .ref 128, .ref 129, .int u3, .ref 130, .int u4, .ref 131, .ref 132, .ref 133, .ref 134, .int u5, .ref 135, .ref 136, .ref 137, .ref 138, .ref 139, .ref 140, .ref 141, .ref 142, .int u6, .int u7, .int u8, .ref 143, .ref 144, .ref 145, .ref 146, .ref 147, .ref 148, .int 1, .ref 149, .ref 150, .ref 151, .int u10, .ref 152, .ref 153, .ref 154, .ref 155, .ref 156, .ref 157, .ref 158, .ref 159, .int u11, .ref 160, .int u12, .ref 161, .ref 162, .ref 163, .ref 164, .int u13, .ref 165, .ref 166]) kc_43_10 rfl rfl rfl A14 rfl rfl rfl (Nat.le_of_ble_eq_true rfl) rfl (fun hh17 eh16 => ?_)
    have K18 := xk_pf (k := 41) (v := 1) K (xk_wf (by decide +kernel)) xD_115 A14 rfl (by first | omega | decide) (by first | omega | decide) eh16 rfl
    refine xi_aload_n (pc' := 14) (x := 115) kc_43_13 rfl rfl ?_
    refine xi_virtual (mj := 44) (as := []) (st1 := []) (lv0 := [(0, .ref 115)]) kc_43_14 rfl rfl rfl rfl rfl eh16.1 (Nat.le_of_ble_eq_true rfl) (hJ _ _ _ _ (by decide)) (xm_le ml_44 rfl) rfl ?_
    refine mt_44_0 hJ hov1 hov2 (d := d + 4)  K18.1 (fun hh20 K21 => ?_)
    have K22 := xk_tr K18 K21 (xsb_ok _ _ (by decide +kernel))
    obtain ⟨u23, u24, u25, u26, u27, u28, u29, u30, u31, u32, u33, u34, u35, bu23, bu24, bu25, bu26, bu27, bu28, bu29, bu30, bu31, bu32, bu33, bu34, bu35, A36⟩ := xq_115 K22.1
    have e37 : u2 = u24 := xk_eqi (q := 1) K21 (by decide +kernel) eh16.1 A36 rfl rfl
    subst e37
    have e38 : u5 = u27 := xk_eqi (q := 23) K21 (by decide +kernel) eh16.1 A36 rfl rfl
    subst e38
    have e39 : u8 = u30 := xk_eqi (q := 34) K21 (by decide +kernel) eh16.1 A36 rfl rfl
    subst e39
    have e40 : u6 = u28 := xk_eqi (q := 32) K21 (by decide +kernel) eh16.1 A36 rfl rfl
    subst e40
    show xw J ov (d + 6) 43 (17, [(0, .ref 115)], [], hh20) _
    refine xi_iconst (pc' := 18) (v := 0) kc_43_17 rfl rfl ?_
    refine xi_istore_n (pc' := 19) (lv' := [(1, .int 0), (0, .ref 115)]) kc_43_18 rfl rfl (xm_lt ml_43 rfl) ?_
    have zc0 : (0 : Int32).toInt = 0 := by decide
    refine xw_lv (b := [(0, .ref 115), (1, .int 0)]) (lvS_cons (lvS_cons (lvS_nil (show ([1, 0] : List Nat).Nodup by decide)) rfl) rfl) ?_
    exact (lp_43_0 hJ hov1 hov2 (d := d) (hb := hh20) (fun h9 K9 => kk h9 (xk_tr K22 K9 (xsb_ok _ _ (by decide +kernel)))) 65) 0 hh20 (by omega) (xk_re K22.1) (by omega)
  · refine xi_iff (pc' := 7) kc_43_4 rfl (xc_eq_f (X := u9.toInt) (Y := 0) rfl (by decide) (by omega)) ?_
    refine xi_return kc_43_7 mr_43 ?_
    exact kk h K
set_option maxHeartbeats 4000000 in
theorem mt_41_0 {J : xe_J} {ov : List (List Int32)} (hJ : ∀ d mj as h, mj ≠ xe_loff → J d mj as h = none) (hov1 : ov[1]? = some [10, 0, 0, 0, 0, 0]) (hov2 : ov[2]? = some [99, 30, 50, 50, 1, 99999]) {d : Nat} {Q : Option Value → xe_H → Prop} {h : xe_H} {x1 : Int32} (T : xt h) (kk : (∀ (r : Int64) (h' : xe_H), xk xP_17 h h' → Q (some (.long r)) h')) : xw J ov (d + 7) 41 (0, [(0, .ref 115), (1, .int x1)], [], h) Q := by
  have K : xk xP_17 h h := xk_re T
  have rx1 := xc_rng x1
  refine xi_aload_n (pc' := 1) (x := 115) kc_41_0 rfl rfl ?_
  refine xi_iload_n (pc' := 2) (x := x1) kc_41_1 rfl rfl ?_
  refine xi_iconst (pc' := 3) (v := 0) kc_41_2 rfl rfl ?_
  refine xi_aload_n (pc' := 4) (x := 115) kc_41_3 rfl rfl ?_
  obtain ⟨u1, u2, u3, u4, u5, u6, u7, u8, u9, u10, u11, u12, u13, bu1, bu2, bu3, bu4, bu5, bu6, bu7, bu8, bu9, bu10, bu11, bu12, bu13, A14⟩ := xq_115 K.1
  refine xi_virtual (mj := 42) (as := []) (st1 := [.int 0, .int x1, .ref 115]) (lv0 := [(0, .ref 115)]) kc_41_4 rfl rfl rfl rfl rfl A14 (Nat.le_of_ble_eq_true rfl) (hJ _ _ _ _ (by decide)) (xm_le ml_42 rfl) rfl ?_
  refine xi_iconst (pc' := 1) (v := 1) kc_42_0 rfl rfl ?_
  refine xi_aload_n (pc' := 2) (x := 115) kc_42_1 rfl rfl ?_
  refine xi_getfield (pc' := 5) (v := .int u5) kc_42_2 rfl rfl rfl A14 rfl ?_
  refine xi_bipush (pc' := 7) (v := 6) kc_42_5 rfl rfl ?_
  by_cases c15 : 6 ≤ u5.toInt
  · refine xi_cmt (pc' := 17) kc_42_7 rfl (xc_ge_t (X := u5.toInt) (Y := 6) rfl (by decide) (by omega)) ?_
    refine xi_bipush (pc' := 19) (v := 6) kc_42_17 rfl rfl ?_
    refine xi_ishl (pc' := 20) (v := 64) kc_42_19 rfl rfl ?_
    refine xi_ireturn kc_42_20 mr_42 rfl ?_
    show xw J ov (d + 7) 41 (7, [(0, .ref 115), (1, .int x1)], [.int 64, .int 0, .int x1, .ref 115], h) _
    refine xi_iconst (pc' := 8) (v := 1) kc_41_7 rfl rfl ?_
    refine xi_isub (pc' := 9) (v := 63) kc_41_8 rfl rfl ?_
    refine xi_static (mj := 11) (as := [.int x1, .int 0, .int 63]) (st1 := [.ref 115]) (lv0 := [(0, .int x1), (1, .int 0), (2, .int 63)]) kc_41_9 rfl rfl (Nat.le_of_ble_eq_true rfl) rfl rfl (Nat.le_of_ble_eq_true rfl) (hJ _ _ _ _ (by decide)) (xm_le ml_11 rfl) rfl ?_
    refine xi_iload_n (pc' := 1) (x := x1) kc_11_0 rfl rfl ?_
    refine xi_iload_n (pc' := 2) (x := 0) kc_11_1 rfl rfl ?_
    by_cases c16 : x1.toInt < 0
    · refine xi_cmt (pc' := 14) kc_11_2 rfl (xc_lt_t (X := x1.toInt) (Y := 0) rfl (by decide) (by omega)) ?_
      refine xi_iconst (pc' := 15) (v := 0) kc_11_14 rfl rfl ?_
      refine xi_ireturn kc_11_15 mr_11 rfl ?_
      show xw J ov (d + 7) 41 (12, [(0, .ref 115), (1, .int x1)], [.int 0, .ref 115], h) _
      refine xi_ift (pc' := 19) kc_41_12 rfl rfl ?_
      refine xi_iconst (pc' := 20) (v := 1) kc_41_19 rfl rfl ?_
      refine xi_putfield (pc' := 23) (fs' := [.int 1, .int u2, .ref 116, .ref 117, .ref 118, .ref 119, .ref 120, .ref 121, .ref 122, .ref 123, .ref 124, .ref 125, .ref 126, .ref 127, .ref 128, .ref 129, .int u3, .ref 130, .int u4, .ref 131, .ref 132, .ref 133, .ref 134, .int u5, .ref 135, .ref 136, .ref 137, .ref 138, .ref 139, .ref 140, .ref 141, .ref 142, .int u6, .int u7, .int u8, .ref 143, .ref 144, .ref 145, .ref 146, .ref 147, .ref 148, .int u9, .ref 149, .ref 150, .ref 151, .int u10, .ref 152, .ref 153, .ref 154, .ref 155, .ref 156, .ref 157, .ref 158, .ref 159, .int u11, .ref 160, .int u12, .ref 161, .ref 162, .ref 163, .ref 164, .int u13, .ref 165, .ref 166]) kc_41_20 rfl rfl rfl A14 rfl rfl rfl (Nat.le_of_ble_eq_true rfl) rfl (fun hh18 eh17 => ?_)
      have K19 := xk_pf (k := 0) (v := 1) K (xk_wf (by decide +kernel)) xD_115 A14 rfl (by first | omega | decide) (by first | omega | decide) eh17 rfl
      refine xi_aload_n (pc' := 24) (x := 115) kc_41_23 rfl rfl ?_
      refine xi_getfield (pc' := 27) (v := .int 1) kc_41_24 rfl rfl rfl eh17.1 rfl ?_
      refine xi_iff (pc' := 30) kc_41_27 rfl rfl ?_
      refine xi_lconst (pc' := 31) (v := 0) kc_41_30 rfl rfl ?_
      refine xi_lreturn kc_41_31 mr_41 ?_
      exact kk 0 hh18 K19
    · refine xi_cmf (pc' := 5) kc_11_2 rfl (xc_lt_f (X := x1.toInt) (Y := 0) rfl (by decide) (by omega)) ?_
      refine xi_iload_n (pc' := 6) (x := x1) kc_11_5 rfl rfl ?_
      refine xi_iload_n (pc' := 7) (x := 63) kc_11_6 rfl rfl ?_
      by_cases c20 : 63 < x1.toInt
      · refine xi_cmt (pc' := 14) kc_11_7 rfl (xc_gt_t (X := x1.toInt) (Y := 63) rfl (by decide) (by omega)) ?_
        refine xi_iconst (pc' := 15) (v := 0) kc_11_14 rfl rfl ?_
        refine xi_ireturn kc_11_15 mr_11 rfl ?_
        show xw J ov (d + 7) 41 (12, [(0, .ref 115), (1, .int x1)], [.int 0, .ref 115], h) _
        refine xi_ift (pc' := 19) kc_41_12 rfl rfl ?_
        refine xi_iconst (pc' := 20) (v := 1) kc_41_19 rfl rfl ?_
        refine xi_putfield (pc' := 23) (fs' := [.int 1, .int u2, .ref 116, .ref 117, .ref 118, .ref 119, .ref 120, .ref 121, .ref 122, .ref 123, .ref 124, .ref 125, .ref 126, .ref 127, .ref 128, .ref 129, .int u3, .ref 130, .int u4, .ref 131, .ref 132, .ref 133, .ref 134, .int u5, .ref 135, .ref 136, .ref 137, .ref 138, .ref 139, .ref 140, .ref 141, .ref 142, .int u6, .int u7, .int u8, .ref 143, .ref 144, .ref 145, .ref 146, .ref 147, .ref 148, .int u9, .ref 149, .ref 150, .ref 151, .int u10, .ref 152, .ref 153, .ref 154, .ref 155, .ref 156, .ref 157, .ref 158, .ref 159, .int u11, .ref 160, .int u12, .ref 161, .ref 162, .ref 163, .ref 164, .int u13, .ref 165, .ref 166]) kc_41_20 rfl rfl rfl A14 rfl rfl rfl (Nat.le_of_ble_eq_true rfl) rfl (fun hh22 eh21 => ?_)
        have K23 := xk_pf (k := 0) (v := 1) K (xk_wf (by decide +kernel)) xD_115 A14 rfl (by first | omega | decide) (by first | omega | decide) eh21 rfl
        refine xi_aload_n (pc' := 24) (x := 115) kc_41_23 rfl rfl ?_
        refine xi_getfield (pc' := 27) (v := .int 1) kc_41_24 rfl rfl rfl eh21.1 rfl ?_
        refine xi_iff (pc' := 30) kc_41_27 rfl rfl ?_
        refine xi_lconst (pc' := 31) (v := 0) kc_41_30 rfl rfl ?_
        refine xi_lreturn kc_41_31 mr_41 ?_
        exact kk 0 hh22 K23
      · refine xi_cmf (pc' := 10) kc_11_7 rfl (xc_gt_f (X := x1.toInt) (Y := 63) rfl (by decide) (by omega)) ?_
        refine xi_iconst (pc' := 11) (v := 1) kc_11_10 rfl rfl ?_
        refine xi_goto (pc' := 15) kc_11_11 rfl ?_
        refine xi_ireturn kc_11_15 mr_11 rfl ?_
        show xw J ov (d + 7) 41 (12, [(0, .ref 115), (1, .int x1)], [.int 1, .ref 115], h) _
        refine xi_iff (pc' := 15) kc_41_12 rfl rfl ?_
        refine xi_iconst (pc' := 16) (v := 0) kc_41_15 rfl rfl ?_
        refine xi_goto (pc' := 20) kc_41_16 rfl ?_
        refine xi_putfield (pc' := 23) (fs' := [.int 0, .int u2, .ref 116, .ref 117, .ref 118, .ref 119, .ref 120, .ref 121, .ref 122, .ref 123, .ref 124, .ref 125, .ref 126, .ref 127, .ref 128, .ref 129, .int u3, .ref 130, .int u4, .ref 131, .ref 132, .ref 133, .ref 134, .int u5, .ref 135, .ref 136, .ref 137, .ref 138, .ref 139, .ref 140, .ref 141, .ref 142, .int u6, .int u7, .int u8, .ref 143, .ref 144, .ref 145, .ref 146, .ref 147, .ref 148, .int u9, .ref 149, .ref 150, .ref 151, .int u10, .ref 152, .ref 153, .ref 154, .ref 155, .ref 156, .ref 157, .ref 158, .ref 159, .int u11, .ref 160, .int u12, .ref 161, .ref 162, .ref 163, .ref 164, .int u13, .ref 165, .ref 166]) kc_41_20 rfl rfl rfl A14 rfl rfl rfl (Nat.le_of_ble_eq_true rfl) rfl (fun hh25 eh24 => ?_)
        have K26 := xk_pf (k := 0) (v := 0) K (xk_wf (by decide +kernel)) xD_115 A14 rfl (by first | omega | decide) (by first | omega | decide) eh24 rfl
        refine xi_aload_n (pc' := 24) (x := 115) kc_41_23 rfl rfl ?_
        refine xi_getfield (pc' := 27) (v := .int 0) kc_41_24 rfl rfl rfl eh24.1 rfl ?_
        refine xi_ift (pc' := 32) kc_41_27 rfl rfl ?_
        refine xi_aload_n (pc' := 33) (x := 115) kc_41_32 rfl rfl ?_
        refine xi_virtual (mj := 43) (as := []) (st1 := []) (lv0 := [(0, .ref 115)]) kc_41_33 rfl rfl rfl rfl rfl eh24.1 (Nat.le_of_ble_eq_true rfl) (hJ _ _ _ _ (by decide)) (xm_le ml_43 rfl) rfl ?_
        refine mt_43_0 hJ hov1 hov2 (d := d)  K26.1 (fun hh28 K29 => ?_)
        have K30 := xk_tr K26 K29 (xsb_ok _ _ (by decide +kernel))
        obtain ⟨u31, u32, u33, u34, u35, u36, u37, u38, u39, u40, u41, u42, u43, bu31, bu32, bu33, bu34, bu35, bu36, bu37, bu38, bu39, bu40, bu41, bu42, bu43, A44⟩ := xq_115 K30.1
        have e45 : u2 = u32 := xk_eqi (q := 1) K29 (by decide +kernel) eh24.1 A44 rfl rfl
        subst e45
        have e46 : u5 = u35 := xk_eqi (q := 23) K29 (by decide +kernel) eh24.1 A44 rfl rfl
        subst e46
        have e47 : u8 = u38 := xk_eqi (q := 34) K29 (by decide +kernel) eh24.1 A44 rfl rfl
        subst e47
        show xw J ov (d + 7) 41 (36, [(0, .ref 115), (1, .int x1)], [], hh28) _
        refine xi_aload_n (pc' := 37) (x := 115) kc_41_36 rfl rfl ?_
        refine xi_getfield (pc' := 40) (v := .ref 149) kc_41_37 rfl rfl rfl A44 rfl ?_
        refine xi_iload_n (pc' := 41) (x := x1) kc_41_40 rfl rfl ?_
        obtain ⟨y48, A48, hy48⟩ := xk_larr K30.1 xD_149
        obtain ⟨v49, ev49⟩ : ∃ q : Int64, y48.getD (Int32.toNatClampNeg x1) 0 = q := ⟨_, rfl⟩
        refine xi_laload (pc' := 42) (v := v49) kc_41_41 rfl A48 rfl (xi_in (by omega) (by rw [hy48]; omega)) ev49 ?_
        refine xi_lreturn kc_41_42 mr_41 ?_
        exact kk v49 hh28 K30
  · refine xi_cmf (pc' := 10) kc_42_7 rfl (xc_ge_f (X := u5.toInt) (Y := 6) rfl (by decide) (by omega)) ?_
    refine xi_aload_n (pc' := 11) (x := 115) kc_42_10 rfl rfl ?_
    refine xi_getfield (pc' := 14) (v := .int u5) kc_42_11 rfl rfl rfl A14 rfl ?_
    refine xi_goto (pc' := 19) kc_42_14 rfl ?_
    obtain ⟨v50, ev50⟩ : ∃ q : Int32, (1 : Int32) <<< (u5 &&& 31) = q := ⟨_, rfl⟩
    have rv50 := xc_rng v50
    have bv50 : 1 ≤ v50.toInt ∧ v50.toInt ≤ 64 := by rw [← ev50]; exact xj_shl6 (by omega) (by omega)
    refine xi_ishl (pc' := 20) (v := v50) kc_42_19 rfl ev50 ?_
    refine xi_ireturn kc_42_20 mr_42 rfl ?_
    show xw J ov (d + 7) 41 (7, [(0, .ref 115), (1, .int x1)], [.int v50, .int 0, .int x1, .ref 115], h) _
    refine xi_iconst (pc' := 8) (v := 1) kc_41_7 rfl rfl ?_
    obtain ⟨v51, ev51⟩ : ∃ q : Int32, v50 - 1 = q := ⟨_, rfl⟩
    have zv51 : v51.toInt = (v50.toInt + (-1)) := by rw [← ev51]; exact (xz_sub (X := v50.toInt) (Y := 1) rfl (by decide) (by omega) (by omega)).trans (by omega)
    refine xi_isub (pc' := 9) (v := v51) kc_41_8 rfl ev51 ?_
    refine xi_static (mj := 11) (as := [.int x1, .int 0, .int v51]) (st1 := [.ref 115]) (lv0 := [(0, .int x1), (1, .int 0), (2, .int v51)]) kc_41_9 rfl rfl (Nat.le_of_ble_eq_true rfl) rfl rfl (Nat.le_of_ble_eq_true rfl) (hJ _ _ _ _ (by decide)) (xm_le ml_11 rfl) rfl ?_
    refine xi_iload_n (pc' := 1) (x := x1) kc_11_0 rfl rfl ?_
    refine xi_iload_n (pc' := 2) (x := 0) kc_11_1 rfl rfl ?_
    by_cases c52 : x1.toInt < 0
    · refine xi_cmt (pc' := 14) kc_11_2 rfl (xc_lt_t (X := x1.toInt) (Y := 0) rfl (by decide) (by omega)) ?_
      refine xi_iconst (pc' := 15) (v := 0) kc_11_14 rfl rfl ?_
      refine xi_ireturn kc_11_15 mr_11 rfl ?_
      show xw J ov (d + 7) 41 (12, [(0, .ref 115), (1, .int x1)], [.int 0, .ref 115], h) _
      refine xi_ift (pc' := 19) kc_41_12 rfl rfl ?_
      refine xi_iconst (pc' := 20) (v := 1) kc_41_19 rfl rfl ?_
      refine xi_putfield (pc' := 23) (fs' := [.int 1, .int u2, .ref 116, .ref 117, .ref 118, .ref 119, .ref 120, .ref 121, .ref 122, .ref 123, .ref 124, .ref 125, .ref 126, .ref 127, .ref 128, .ref 129, .int u3, .ref 130, .int u4, .ref 131, .ref 132, .ref 133, .ref 134, .int u5, .ref 135, .ref 136, .ref 137, .ref 138, .ref 139, .ref 140, .ref 141, .ref 142, .int u6, .int u7, .int u8, .ref 143, .ref 144, .ref 145, .ref 146, .ref 147, .ref 148, .int u9, .ref 149, .ref 150, .ref 151, .int u10, .ref 152, .ref 153, .ref 154, .ref 155, .ref 156, .ref 157, .ref 158, .ref 159, .int u11, .ref 160, .int u12, .ref 161, .ref 162, .ref 163, .ref 164, .int u13, .ref 165, .ref 166]) kc_41_20 rfl rfl rfl A14 rfl rfl rfl (Nat.le_of_ble_eq_true rfl) rfl (fun hh54 eh53 => ?_)
      have K55 := xk_pf (k := 0) (v := 1) K (xk_wf (by decide +kernel)) xD_115 A14 rfl (by first | omega | decide) (by first | omega | decide) eh53 rfl
      refine xi_aload_n (pc' := 24) (x := 115) kc_41_23 rfl rfl ?_
      refine xi_getfield (pc' := 27) (v := .int 1) kc_41_24 rfl rfl rfl eh53.1 rfl ?_
      refine xi_iff (pc' := 30) kc_41_27 rfl rfl ?_
      refine xi_lconst (pc' := 31) (v := 0) kc_41_30 rfl rfl ?_
      refine xi_lreturn kc_41_31 mr_41 ?_
      exact kk 0 hh54 K55
    · refine xi_cmf (pc' := 5) kc_11_2 rfl (xc_lt_f (X := x1.toInt) (Y := 0) rfl (by decide) (by omega)) ?_
      refine xi_iload_n (pc' := 6) (x := x1) kc_11_5 rfl rfl ?_
      refine xi_iload_n (pc' := 7) (x := v51) kc_11_6 rfl rfl ?_
      by_cases c56 : (v50.toInt + (-1)) < x1.toInt
      · refine xi_cmt (pc' := 14) kc_11_7 rfl (xc_gt_t (X := x1.toInt) (Y := (v50.toInt + (-1))) rfl zv51 (by omega)) ?_
        refine xi_iconst (pc' := 15) (v := 0) kc_11_14 rfl rfl ?_
        refine xi_ireturn kc_11_15 mr_11 rfl ?_
        show xw J ov (d + 7) 41 (12, [(0, .ref 115), (1, .int x1)], [.int 0, .ref 115], h) _
        refine xi_ift (pc' := 19) kc_41_12 rfl rfl ?_
        refine xi_iconst (pc' := 20) (v := 1) kc_41_19 rfl rfl ?_
        refine xi_putfield (pc' := 23) (fs' := [.int 1, .int u2, .ref 116, .ref 117, .ref 118, .ref 119, .ref 120, .ref 121, .ref 122, .ref 123, .ref 124, .ref 125, .ref 126, .ref 127, .ref 128, .ref 129, .int u3, .ref 130, .int u4, .ref 131, .ref 132, .ref 133, .ref 134, .int u5, .ref 135, .ref 136, .ref 137, .ref 138, .ref 139, .ref 140, .ref 141, .ref 142, .int u6, .int u7, .int u8, .ref 143, .ref 144, .ref 145, .ref 146, .ref 147, .ref 148, .int u9, .ref 149, .ref 150, .ref 151, .int u10, .ref 152, .ref 153, .ref 154, .ref 155, .ref 156, .ref 157, .ref 158, .ref 159, .int u11, .ref 160, .int u12, .ref 161, .ref 162, .ref 163, .ref 164, .int u13, .ref 165, .ref 166]) kc_41_20 rfl rfl rfl A14 rfl rfl rfl (Nat.le_of_ble_eq_true rfl) rfl (fun hh58 eh57 => ?_)
        have K59 := xk_pf (k := 0) (v := 1) K (xk_wf (by decide +kernel)) xD_115 A14 rfl (by first | omega | decide) (by first | omega | decide) eh57 rfl
        refine xi_aload_n (pc' := 24) (x := 115) kc_41_23 rfl rfl ?_
        refine xi_getfield (pc' := 27) (v := .int 1) kc_41_24 rfl rfl rfl eh57.1 rfl ?_
        refine xi_iff (pc' := 30) kc_41_27 rfl rfl ?_
        refine xi_lconst (pc' := 31) (v := 0) kc_41_30 rfl rfl ?_
        refine xi_lreturn kc_41_31 mr_41 ?_
        exact kk 0 hh58 K59
      · refine xi_cmf (pc' := 10) kc_11_7 rfl (xc_gt_f (X := x1.toInt) (Y := (v50.toInt + (-1))) rfl zv51 (by omega)) ?_
        refine xi_iconst (pc' := 11) (v := 1) kc_11_10 rfl rfl ?_
        refine xi_goto (pc' := 15) kc_11_11 rfl ?_
        refine xi_ireturn kc_11_15 mr_11 rfl ?_
        show xw J ov (d + 7) 41 (12, [(0, .ref 115), (1, .int x1)], [.int 1, .ref 115], h) _
        refine xi_iff (pc' := 15) kc_41_12 rfl rfl ?_
        refine xi_iconst (pc' := 16) (v := 0) kc_41_15 rfl rfl ?_
        refine xi_goto (pc' := 20) kc_41_16 rfl ?_
        refine xi_putfield (pc' := 23) (fs' := [.int 0, .int u2, .ref 116, .ref 117, .ref 118, .ref 119, .ref 120, .ref 121, .ref 122, .ref 123, .ref 124, .ref 125, .ref 126, .ref 127, .ref 128, .ref 129, .int u3, .ref 130, .int u4, .ref 131, .ref 132, .ref 133, .ref 134, .int u5, .ref 135, .ref 136, .ref 137, .ref 138, .ref 139, .ref 140, .ref 141, .ref 142, .int u6, .int u7, .int u8, .ref 143, .ref 144, .ref 145, .ref 146, .ref 147, .ref 148, .int u9, .ref 149, .ref 150, .ref 151, .int u10, .ref 152, .ref 153, .ref 154, .ref 155, .ref 156, .ref 157, .ref 158, .ref 159, .int u11, .ref 160, .int u12, .ref 161, .ref 162, .ref 163, .ref 164, .int u13, .ref 165, .ref 166]) kc_41_20 rfl rfl rfl A14 rfl rfl rfl (Nat.le_of_ble_eq_true rfl) rfl (fun hh61 eh60 => ?_)
        have K62 := xk_pf (k := 0) (v := 0) K (xk_wf (by decide +kernel)) xD_115 A14 rfl (by first | omega | decide) (by first | omega | decide) eh60 rfl
        refine xi_aload_n (pc' := 24) (x := 115) kc_41_23 rfl rfl ?_
        refine xi_getfield (pc' := 27) (v := .int 0) kc_41_24 rfl rfl rfl eh60.1 rfl ?_
        refine xi_ift (pc' := 32) kc_41_27 rfl rfl ?_
        refine xi_aload_n (pc' := 33) (x := 115) kc_41_32 rfl rfl ?_
        refine xi_virtual (mj := 43) (as := []) (st1 := []) (lv0 := [(0, .ref 115)]) kc_41_33 rfl rfl rfl rfl rfl eh60.1 (Nat.le_of_ble_eq_true rfl) (hJ _ _ _ _ (by decide)) (xm_le ml_43 rfl) rfl ?_
        refine mt_43_0 hJ hov1 hov2 (d := d)  K62.1 (fun hh64 K65 => ?_)
        have K66 := xk_tr K62 K65 (xsb_ok _ _ (by decide +kernel))
        obtain ⟨u67, u68, u69, u70, u71, u72, u73, u74, u75, u76, u77, u78, u79, bu67, bu68, bu69, bu70, bu71, bu72, bu73, bu74, bu75, bu76, bu77, bu78, bu79, A80⟩ := xq_115 K66.1
        have e81 : u2 = u68 := xk_eqi (q := 1) K65 (by decide +kernel) eh60.1 A80 rfl rfl
        subst e81
        have e82 : u5 = u71 := xk_eqi (q := 23) K65 (by decide +kernel) eh60.1 A80 rfl rfl
        subst e82
        have e83 : u8 = u74 := xk_eqi (q := 34) K65 (by decide +kernel) eh60.1 A80 rfl rfl
        subst e83
        show xw J ov (d + 7) 41 (36, [(0, .ref 115), (1, .int x1)], [], hh64) _
        refine xi_aload_n (pc' := 37) (x := 115) kc_41_36 rfl rfl ?_
        refine xi_getfield (pc' := 40) (v := .ref 149) kc_41_37 rfl rfl rfl A80 rfl ?_
        refine xi_iload_n (pc' := 41) (x := x1) kc_41_40 rfl rfl ?_
        obtain ⟨y84, A84, hy84⟩ := xk_larr K66.1 xD_149
        obtain ⟨v85, ev85⟩ : ∃ q : Int64, y84.getD (Int32.toNatClampNeg x1) 0 = q := ⟨_, rfl⟩
        refine xi_laload (pc' := 42) (v := v85) kc_41_41 rfl A84 rfl (xi_in (by omega) (by rw [hy84]; omega)) ev85 ?_
        refine xi_lreturn kc_41_42 mr_41 ?_
        exact kk v85 hh64 K66
set_option maxHeartbeats 4000000 in
theorem mt_46_0 {J : xe_J} {ov : List (List Int32)} (hJ : ∀ d mj as h, mj ≠ xe_loff → J d mj as h = none) (hov1 : ov[1]? = some [10, 0, 0, 0, 0, 0]) (hov2 : ov[2]? = some [99, 30, 50, 50, 1, 99999]) {d : Nat} {Q : Option Value → xe_H → Prop} {h : xe_H} {x1 : Int32} {x2 : Int32} (T : xt h) (kk : (∀ (r : Int32) (h' : xe_H), xk xP_17 h h' → Q (some (.int r)) h')) : xw J ov (d + 6) 46 (0, [(0, .ref 115), (1, .int x1), (2, .int x2)], [], h) Q := by
  have K : xk xP_17 h h := xk_re T
  have rx1 := xc_rng x1
  have rx2 := xc_rng x2
  refine xi_aload_n (pc' := 1) (x := 115) kc_46_0 rfl rfl ?_
  refine xi_iconst (pc' := 2) (v := 0) kc_46_1 rfl rfl ?_
  obtain ⟨u1, u2, u3, u4, u5, u6, u7, u8, u9, u10, u11, u12, u13, bu1, bu2, bu3, bu4, bu5, bu6, bu7, bu8, bu9, bu10, bu11, bu12, bu13, A14⟩ := xq_115 K.1
  refine xi_putfield (pc' := 5) (fs' := [.int 0, .int u2, .ref 116, .ref 117, .ref 118, .ref 119, .ref 120, .ref 121, .ref 122, .ref 123, .ref 124, .ref 125, .ref 126, .ref 127, .ref 128, .ref 129, .int u3, .ref 130, .int u4, .ref 131, .ref 132, .ref 133, .ref 134, .int u5, .ref 135, .ref 136, .ref 137, .ref 138, .ref 139, .ref 140, .ref 141, .ref 142, .int u6, .int u7, .int u8, .ref 143, .ref 144, .ref 145, .ref 146, .ref 147, .ref 148, .int u9, .ref 149, .ref 150, .ref 151, .int u10, .ref 152, .ref 153, .ref 154, .ref 155, .ref 156, .ref 157, .ref 158, .ref 159, .int u11, .ref 160, .int u12, .ref 161, .ref 162, .ref 163, .ref 164, .int u13, .ref 165, .ref 166]) kc_46_2 rfl rfl rfl A14 rfl rfl rfl (Nat.le_of_ble_eq_true rfl) rfl (fun hh16 eh15 => ?_)
  have K17 := xk_pf (k := 0) (v := 0) K (xk_wf (by decide +kernel)) xD_115 A14 rfl (by first | omega | decide) (by first | omega | decide) eh15 rfl
  refine xi_aload_n (pc' := 6) (x := 115) kc_46_5 rfl rfl ?_
  refine xi_iload_n (pc' := 7) (x := x2) kc_46_6 rfl rfl ?_
  refine xi_virtual (mj := 31) (as := [.int x2]) (st1 := []) (lv0 := [(0, .ref 115), (1, .int x2)]) kc_46_7 rfl rfl rfl rfl rfl eh15.1 (Nat.le_of_ble_eq_true rfl) (hJ _ _ _ _ (by decide)) (xm_le ml_31 rfl) rfl ?_
  refine xi_iload_n (pc' := 1) (x := x2) kc_31_0 rfl rfl ?_
  refine xi_static (mj := 24) (as := [.int x2]) (st1 := []) (lv0 := [(0, .int x2)]) kc_31_1 rfl rfl (Nat.le_of_ble_eq_true rfl) rfl rfl (Nat.le_of_ble_eq_true rfl) (hJ _ _ _ _ (by decide)) (xm_le ml_24 rfl) rfl ?_
  refine xi_iload_n (pc' := 1) (x := x2) kc_24_0 rfl rfl ?_
  refine xi_iconst (pc' := 2) (v := 0) kc_24_1 rfl rfl ?_
  refine xi_bipush (pc' := 4) (v := 11) kc_24_2 rfl rfl ?_
  refine xi_static (mj := 11) (as := [.int x2, .int 0, .int 11]) (st1 := []) (lv0 := [(0, .int x2), (1, .int 0), (2, .int 11)]) kc_24_4 rfl rfl (Nat.le_of_ble_eq_true rfl) rfl rfl (Nat.le_of_ble_eq_true rfl) (hJ _ _ _ _ (by decide)) (xm_le ml_11 rfl) rfl ?_
  refine xi_iload_n (pc' := 1) (x := x2) kc_11_0 rfl rfl ?_
  refine xi_iload_n (pc' := 2) (x := 0) kc_11_1 rfl rfl ?_
  by_cases c18 : x2.toInt < 0
  · refine xi_cmt (pc' := 14) kc_11_2 rfl (xc_lt_t (X := x2.toInt) (Y := 0) rfl (by decide) (by omega)) ?_
    refine xi_iconst (pc' := 15) (v := 0) kc_11_14 rfl rfl ?_
    refine xi_ireturn kc_11_15 mr_11 rfl ?_
    show xw J ov (d + 4) 24 (7, [(0, .int x2)], [.int 0], hh16) _
    refine xi_ireturn kc_24_7 mr_24 rfl ?_
    show xw J ov (d + 5) 31 (4, [(0, .ref 115), (1, .int x2)], [.int 0], hh16) _
    refine xi_ift (pc' := 20) kc_31_4 rfl rfl ?_
    refine xi_iconst (pc' := 21) (v := 0) kc_31_20 rfl rfl ?_
    refine xi_ireturn kc_31_21 mr_31 rfl ?_
    show xw J ov (d + 6) 46 (10, [(0, .ref 115), (1, .int x1), (2, .int x2)], [.int 0], hh16) _
    refine xi_iff (pc' := 13) kc_46_10 rfl rfl ?_
    refine xi_aload_n (pc' := 14) (x := 115) kc_46_13 rfl rfl ?_
    refine xi_iconst (pc' := 15) (v := (-1)) kc_46_14 rfl rfl ?_
    refine xi_virtual (mj := 12) (as := [.int (-1)]) (st1 := []) (lv0 := [(0, .ref 115), (1, .int (-1))]) kc_46_15 rfl rfl rfl rfl rfl eh15.1 (Nat.le_of_ble_eq_true rfl) (hJ _ _ _ _ (by decide)) (xm_le ml_12 rfl) rfl ?_
    refine xi_aload_n (pc' := 1) (x := 115) kc_12_0 rfl rfl ?_
    refine xi_getfield (pc' := 4) (v := .ref 140) kc_12_1 rfl rfl rfl eh15.1 rfl ?_
    refine xi_iload_n (pc' := 5) (x := (-1)) kc_12_4 rfl rfl ?_
    refine xi_ineg (pc' := 6) (v := 1) kc_12_5 rfl rfl ?_
    refine xi_dup2 (pc' := 7) kc_12_6 rfl ⟨rfl, rfl⟩ ?_
    obtain ⟨y19, A19, hy19, ry19⟩ := xk_arr K17.1 xD_140
    obtain ⟨v20, ev20, bv20, dv20⟩ := xj_get hy19 ry19 (i := 1) (by decide) (by decide)
    refine xi_iaload (pc' := 8) (v := v20) kc_12_7 rfl A19 (by decide) rfl (xi_in (by decide) (by rw [hy19]; decide)) ev20 ?_
    refine xi_iconst (pc' := 9) (v := 1) kc_12_8 rfl rfl ?_
    obtain ⟨v21, ev21⟩ : ∃ q : Int32, (v20 : Int32) + 1 = q := ⟨_, rfl⟩
    have rv21 := xc_rng v21
    refine xi_iadd (pc' := 10) (v := v21) kc_12_9 rfl ev21 ?_
    obtain ⟨y22, s22, hy22, ry22⟩ := xj_set (v := v21) hy19 ry19 1 (by first | omega | decide) (by first | omega | decide)
    refine xi_iastore (pc' := 11) (x' := y22) kc_12_10 rfl A19 rfl (xi_in (by decide) (by rw [hy19]; decide)) s22 (fun hh22 eh22 => ?_)
    have K23 := xk_pa K17 (xk_wa (by decide +kernel)) xD_140 hy22 ry22 eh22
    refine xi_iload_n (pc' := 12) (x := (-1)) kc_12_11 rfl rfl ?_
    refine xi_ireturn kc_12_12 mr_12 rfl ?_
    show xw J ov (d + 6) 46 (18, [(0, .ref 115), (1, .int x1), (2, .int x2)], [.int (-1)], hh22) _
    refine xi_ireturn kc_46_18 mr_46 rfl ?_
    have zcm1 : ((-1) : Int32).toInt = (-1) := by decide
    exact kk (-1) hh22 K23
  · refine xi_cmf (pc' := 5) kc_11_2 rfl (xc_lt_f (X := x2.toInt) (Y := 0) rfl (by decide) (by omega)) ?_
    refine xi_iload_n (pc' := 6) (x := x2) kc_11_5 rfl rfl ?_
    refine xi_iload_n (pc' := 7) (x := 11) kc_11_6 rfl rfl ?_
    by_cases c24 : 11 < x2.toInt
    · refine xi_cmt (pc' := 14) kc_11_7 rfl (xc_gt_t (X := x2.toInt) (Y := 11) rfl (by decide) (by omega)) ?_
      refine xi_iconst (pc' := 15) (v := 0) kc_11_14 rfl rfl ?_
      refine xi_ireturn kc_11_15 mr_11 rfl ?_
      show xw J ov (d + 4) 24 (7, [(0, .int x2)], [.int 0], hh16) _
      refine xi_ireturn kc_24_7 mr_24 rfl ?_
      show xw J ov (d + 5) 31 (4, [(0, .ref 115), (1, .int x2)], [.int 0], hh16) _
      refine xi_ift (pc' := 20) kc_31_4 rfl rfl ?_
      refine xi_iconst (pc' := 21) (v := 0) kc_31_20 rfl rfl ?_
      refine xi_ireturn kc_31_21 mr_31 rfl ?_
      show xw J ov (d + 6) 46 (10, [(0, .ref 115), (1, .int x1), (2, .int x2)], [.int 0], hh16) _
      refine xi_iff (pc' := 13) kc_46_10 rfl rfl ?_
      refine xi_aload_n (pc' := 14) (x := 115) kc_46_13 rfl rfl ?_
      refine xi_iconst (pc' := 15) (v := (-1)) kc_46_14 rfl rfl ?_
      refine xi_virtual (mj := 12) (as := [.int (-1)]) (st1 := []) (lv0 := [(0, .ref 115), (1, .int (-1))]) kc_46_15 rfl rfl rfl rfl rfl eh15.1 (Nat.le_of_ble_eq_true rfl) (hJ _ _ _ _ (by decide)) (xm_le ml_12 rfl) rfl ?_
      refine xi_aload_n (pc' := 1) (x := 115) kc_12_0 rfl rfl ?_
      refine xi_getfield (pc' := 4) (v := .ref 140) kc_12_1 rfl rfl rfl eh15.1 rfl ?_
      refine xi_iload_n (pc' := 5) (x := (-1)) kc_12_4 rfl rfl ?_
      refine xi_ineg (pc' := 6) (v := 1) kc_12_5 rfl rfl ?_
      refine xi_dup2 (pc' := 7) kc_12_6 rfl ⟨rfl, rfl⟩ ?_
      obtain ⟨y25, A25, hy25, ry25⟩ := xk_arr K17.1 xD_140
      obtain ⟨v26, ev26, bv26, dv26⟩ := xj_get hy25 ry25 (i := 1) (by decide) (by decide)
      refine xi_iaload (pc' := 8) (v := v26) kc_12_7 rfl A25 (by decide) rfl (xi_in (by decide) (by rw [hy25]; decide)) ev26 ?_
      refine xi_iconst (pc' := 9) (v := 1) kc_12_8 rfl rfl ?_
      obtain ⟨v27, ev27⟩ : ∃ q : Int32, (v26 : Int32) + 1 = q := ⟨_, rfl⟩
      have rv27 := xc_rng v27
      refine xi_iadd (pc' := 10) (v := v27) kc_12_9 rfl ev27 ?_
      obtain ⟨y28, s28, hy28, ry28⟩ := xj_set (v := v27) hy25 ry25 1 (by first | omega | decide) (by first | omega | decide)
      refine xi_iastore (pc' := 11) (x' := y28) kc_12_10 rfl A25 rfl (xi_in (by decide) (by rw [hy25]; decide)) s28 (fun hh28 eh28 => ?_)
      have K29 := xk_pa K17 (xk_wa (by decide +kernel)) xD_140 hy28 ry28 eh28
      refine xi_iload_n (pc' := 12) (x := (-1)) kc_12_11 rfl rfl ?_
      refine xi_ireturn kc_12_12 mr_12 rfl ?_
      show xw J ov (d + 6) 46 (18, [(0, .ref 115), (1, .int x1), (2, .int x2)], [.int (-1)], hh28) _
      refine xi_ireturn kc_46_18 mr_46 rfl ?_
      have zcm1 : ((-1) : Int32).toInt = (-1) := by decide
      exact kk (-1) hh28 K29
    · refine xi_cmf (pc' := 10) kc_11_7 rfl (xc_gt_f (X := x2.toInt) (Y := 11) rfl (by decide) (by omega)) ?_
      refine xi_iconst (pc' := 11) (v := 1) kc_11_10 rfl rfl ?_
      refine xi_goto (pc' := 15) kc_11_11 rfl ?_
      refine xi_ireturn kc_11_15 mr_11 rfl ?_
      show xw J ov (d + 4) 24 (7, [(0, .int x2)], [.int 1], hh16) _
      refine xi_ireturn kc_24_7 mr_24 rfl ?_
      show xw J ov (d + 5) 31 (4, [(0, .ref 115), (1, .int x2)], [.int 1], hh16) _
      refine xi_iff (pc' := 7) kc_31_4 rfl rfl ?_
      refine xi_aload_n (pc' := 8) (x := 115) kc_31_7 rfl rfl ?_
      refine xi_getfield (pc' := 11) (v := .ref 125) kc_31_8 rfl rfl rfl eh15.1 rfl ?_
      refine xi_iload_n (pc' := 12) (x := x2) kc_31_11 rfl rfl ?_
      obtain ⟨y30, A30, hy30, ry30⟩ := xk_arr K17.1 xD_125
      obtain ⟨v31, ev31, bv31, dv31⟩ := xj_get hy30 ry30 (i := x2) (by omega) (by omega)
      refine xi_iaload (pc' := 13) (v := v31) kc_31_12 rfl A30 (by decide) rfl (xi_in (by omega) (by rw [hy30]; omega)) ev31 ?_
      by_cases c32 : v31.toInt < 0
      · refine xi_ift (pc' := 20) kc_31_13 rfl (xc_lt_t (X := v31.toInt) (Y := 0) rfl (by decide) (by omega)) ?_
        refine xi_iconst (pc' := 21) (v := 0) kc_31_20 rfl rfl ?_
        refine xi_ireturn kc_31_21 mr_31 rfl ?_
        show xw J ov (d + 6) 46 (10, [(0, .ref 115), (1, .int x1), (2, .int x2)], [.int 0], hh16) _
        refine xi_iff (pc' := 13) kc_46_10 rfl rfl ?_
        refine xi_aload_n (pc' := 14) (x := 115) kc_46_13 rfl rfl ?_
        refine xi_iconst (pc' := 15) (v := (-1)) kc_46_14 rfl rfl ?_
        refine xi_virtual (mj := 12) (as := [.int (-1)]) (st1 := []) (lv0 := [(0, .ref 115), (1, .int (-1))]) kc_46_15 rfl rfl rfl rfl rfl eh15.1 (Nat.le_of_ble_eq_true rfl) (hJ _ _ _ _ (by decide)) (xm_le ml_12 rfl) rfl ?_
        refine xi_aload_n (pc' := 1) (x := 115) kc_12_0 rfl rfl ?_
        refine xi_getfield (pc' := 4) (v := .ref 140) kc_12_1 rfl rfl rfl eh15.1 rfl ?_
        refine xi_iload_n (pc' := 5) (x := (-1)) kc_12_4 rfl rfl ?_
        refine xi_ineg (pc' := 6) (v := 1) kc_12_5 rfl rfl ?_
        refine xi_dup2 (pc' := 7) kc_12_6 rfl ⟨rfl, rfl⟩ ?_
        obtain ⟨y33, A33, hy33, ry33⟩ := xk_arr K17.1 xD_140
        obtain ⟨v34, ev34, bv34, dv34⟩ := xj_get hy33 ry33 (i := 1) (by decide) (by decide)
        refine xi_iaload (pc' := 8) (v := v34) kc_12_7 rfl A33 (by decide) rfl (xi_in (by decide) (by rw [hy33]; decide)) ev34 ?_
        refine xi_iconst (pc' := 9) (v := 1) kc_12_8 rfl rfl ?_
        obtain ⟨v35, ev35⟩ : ∃ q : Int32, (v34 : Int32) + 1 = q := ⟨_, rfl⟩
        have rv35 := xc_rng v35
        refine xi_iadd (pc' := 10) (v := v35) kc_12_9 rfl ev35 ?_
        obtain ⟨y36, s36, hy36, ry36⟩ := xj_set (v := v35) hy33 ry33 1 (by first | omega | decide) (by first | omega | decide)
        refine xi_iastore (pc' := 11) (x' := y36) kc_12_10 rfl A33 rfl (xi_in (by decide) (by rw [hy33]; decide)) s36 (fun hh36 eh36 => ?_)
        have K37 := xk_pa K17 (xk_wa (by decide +kernel)) xD_140 hy36 ry36 eh36
        refine xi_iload_n (pc' := 12) (x := (-1)) kc_12_11 rfl rfl ?_
        refine xi_ireturn kc_12_12 mr_12 rfl ?_
        show xw J ov (d + 6) 46 (18, [(0, .ref 115), (1, .int x1), (2, .int x2)], [.int (-1)], hh36) _
        refine xi_ireturn kc_46_18 mr_46 rfl ?_
        have zcm1 : ((-1) : Int32).toInt = (-1) := by decide
        exact kk (-1) hh36 K37
      · refine xi_iff (pc' := 16) kc_31_13 rfl (xc_lt_f (X := v31.toInt) (Y := 0) rfl (by decide) (by omega)) ?_
        refine xi_iconst (pc' := 17) (v := 1) kc_31_16 rfl rfl ?_
        refine xi_goto (pc' := 21) kc_31_17 rfl ?_
        refine xi_ireturn kc_31_21 mr_31 rfl ?_
        show xw J ov (d + 6) 46 (10, [(0, .ref 115), (1, .int x1), (2, .int x2)], [.int 1], hh16) _
        refine xi_ift (pc' := 19) kc_46_10 rfl rfl ?_
        refine xi_iload_n (pc' := 20) (x := x1) kc_46_19 rfl rfl ?_
        refine xi_iconst (pc' := 21) (v := 0) kc_46_20 rfl rfl ?_
        refine xi_aload_n (pc' := 22) (x := 115) kc_46_21 rfl rfl ?_
        refine xi_virtual (mj := 42) (as := []) (st1 := [.int 0, .int x1]) (lv0 := [(0, .ref 115)]) kc_46_22 rfl rfl rfl rfl rfl eh15.1 (Nat.le_of_ble_eq_true rfl) (hJ _ _ _ _ (by decide)) (xm_le ml_42 rfl) rfl ?_
        refine xi_iconst (pc' := 1) (v := 1) kc_42_0 rfl rfl ?_
        refine xi_aload_n (pc' := 2) (x := 115) kc_42_1 rfl rfl ?_
        refine xi_getfield (pc' := 5) (v := .int u5) kc_42_2 rfl rfl rfl eh15.1 rfl ?_
        refine xi_bipush (pc' := 7) (v := 6) kc_42_5 rfl rfl ?_
        by_cases c38 : 6 ≤ u5.toInt
        · refine xi_cmt (pc' := 17) kc_42_7 rfl (xc_ge_t (X := u5.toInt) (Y := 6) rfl (by decide) (by omega)) ?_
          refine xi_bipush (pc' := 19) (v := 6) kc_42_17 rfl rfl ?_
          refine xi_ishl (pc' := 20) (v := 64) kc_42_19 rfl rfl ?_
          refine xi_ireturn kc_42_20 mr_42 rfl ?_
          show xw J ov (d + 6) 46 (25, [(0, .ref 115), (1, .int x1), (2, .int x2)], [.int 64, .int 0, .int x1], hh16) _
          refine xi_iconst (pc' := 26) (v := 1) kc_46_25 rfl rfl ?_
          refine xi_isub (pc' := 27) (v := 63) kc_46_26 rfl rfl ?_
          refine xi_static (mj := 11) (as := [.int x1, .int 0, .int 63]) (st1 := []) (lv0 := [(0, .int x1), (1, .int 0), (2, .int 63)]) kc_46_27 rfl rfl (Nat.le_of_ble_eq_true rfl) rfl rfl (Nat.le_of_ble_eq_true rfl) (hJ _ _ _ _ (by decide)) (xm_le ml_11 rfl) rfl ?_
          refine xi_iload_n (pc' := 1) (x := x1) kc_11_0 rfl rfl ?_
          refine xi_iload_n (pc' := 2) (x := 0) kc_11_1 rfl rfl ?_
          by_cases c39 : x1.toInt < 0
          · refine xi_cmt (pc' := 14) kc_11_2 rfl (xc_lt_t (X := x1.toInt) (Y := 0) rfl (by decide) (by omega)) ?_
            refine xi_iconst (pc' := 15) (v := 0) kc_11_14 rfl rfl ?_
            refine xi_ireturn kc_11_15 mr_11 rfl ?_
            show xw J ov (d + 6) 46 (30, [(0, .ref 115), (1, .int x1), (2, .int x2)], [.int 0], hh16) _
            refine xi_iff (pc' := 33) kc_46_30 rfl rfl ?_
            refine xi_aload_n (pc' := 34) (x := 115) kc_46_33 rfl rfl ?_
            refine xi_bipush (pc' := 36) (v := (-2)) kc_46_34 rfl rfl ?_
            refine xi_virtual (mj := 12) (as := [.int (-2)]) (st1 := []) (lv0 := [(0, .ref 115), (1, .int (-2))]) kc_46_36 rfl rfl rfl rfl rfl eh15.1 (Nat.le_of_ble_eq_true rfl) (hJ _ _ _ _ (by decide)) (xm_le ml_12 rfl) rfl ?_
            refine xi_aload_n (pc' := 1) (x := 115) kc_12_0 rfl rfl ?_
            refine xi_getfield (pc' := 4) (v := .ref 140) kc_12_1 rfl rfl rfl eh15.1 rfl ?_
            refine xi_iload_n (pc' := 5) (x := (-2)) kc_12_4 rfl rfl ?_
            refine xi_ineg (pc' := 6) (v := 2) kc_12_5 rfl rfl ?_
            refine xi_dup2 (pc' := 7) kc_12_6 rfl ⟨rfl, rfl⟩ ?_
            obtain ⟨y40, A40, hy40, ry40⟩ := xk_arr K17.1 xD_140
            obtain ⟨v41, ev41, bv41, dv41⟩ := xj_get hy40 ry40 (i := 2) (by decide) (by decide)
            refine xi_iaload (pc' := 8) (v := v41) kc_12_7 rfl A40 (by decide) rfl (xi_in (by decide) (by rw [hy40]; decide)) ev41 ?_
            refine xi_iconst (pc' := 9) (v := 1) kc_12_8 rfl rfl ?_
            obtain ⟨v42, ev42⟩ : ∃ q : Int32, (v41 : Int32) + 1 = q := ⟨_, rfl⟩
            have rv42 := xc_rng v42
            refine xi_iadd (pc' := 10) (v := v42) kc_12_9 rfl ev42 ?_
            obtain ⟨y43, s43, hy43, ry43⟩ := xj_set (v := v42) hy40 ry40 2 (by first | omega | decide) (by first | omega | decide)
            refine xi_iastore (pc' := 11) (x' := y43) kc_12_10 rfl A40 rfl (xi_in (by decide) (by rw [hy40]; decide)) s43 (fun hh43 eh43 => ?_)
            have K44 := xk_pa K17 (xk_wa (by decide +kernel)) xD_140 hy43 ry43 eh43
            refine xi_iload_n (pc' := 12) (x := (-2)) kc_12_11 rfl rfl ?_
            refine xi_ireturn kc_12_12 mr_12 rfl ?_
            show xw J ov (d + 6) 46 (39, [(0, .ref 115), (1, .int x1), (2, .int x2)], [.int (-2)], hh43) _
            refine xi_ireturn kc_46_39 mr_46 rfl ?_
            have zcm2 : ((-2) : Int32).toInt = (-2) := by decide
            exact kk (-2) hh43 K44
          · refine xi_cmf (pc' := 5) kc_11_2 rfl (xc_lt_f (X := x1.toInt) (Y := 0) rfl (by decide) (by omega)) ?_
            refine xi_iload_n (pc' := 6) (x := x1) kc_11_5 rfl rfl ?_
            refine xi_iload_n (pc' := 7) (x := 63) kc_11_6 rfl rfl ?_
            by_cases c45 : 63 < x1.toInt
            · refine xi_cmt (pc' := 14) kc_11_7 rfl (xc_gt_t (X := x1.toInt) (Y := 63) rfl (by decide) (by omega)) ?_
              refine xi_iconst (pc' := 15) (v := 0) kc_11_14 rfl rfl ?_
              refine xi_ireturn kc_11_15 mr_11 rfl ?_
              show xw J ov (d + 6) 46 (30, [(0, .ref 115), (1, .int x1), (2, .int x2)], [.int 0], hh16) _
              refine xi_iff (pc' := 33) kc_46_30 rfl rfl ?_
              refine xi_aload_n (pc' := 34) (x := 115) kc_46_33 rfl rfl ?_
              refine xi_bipush (pc' := 36) (v := (-2)) kc_46_34 rfl rfl ?_
              refine xi_virtual (mj := 12) (as := [.int (-2)]) (st1 := []) (lv0 := [(0, .ref 115), (1, .int (-2))]) kc_46_36 rfl rfl rfl rfl rfl eh15.1 (Nat.le_of_ble_eq_true rfl) (hJ _ _ _ _ (by decide)) (xm_le ml_12 rfl) rfl ?_
              refine xi_aload_n (pc' := 1) (x := 115) kc_12_0 rfl rfl ?_
              refine xi_getfield (pc' := 4) (v := .ref 140) kc_12_1 rfl rfl rfl eh15.1 rfl ?_
              refine xi_iload_n (pc' := 5) (x := (-2)) kc_12_4 rfl rfl ?_
              refine xi_ineg (pc' := 6) (v := 2) kc_12_5 rfl rfl ?_
              refine xi_dup2 (pc' := 7) kc_12_6 rfl ⟨rfl, rfl⟩ ?_
              obtain ⟨y46, A46, hy46, ry46⟩ := xk_arr K17.1 xD_140
              obtain ⟨v47, ev47, bv47, dv47⟩ := xj_get hy46 ry46 (i := 2) (by decide) (by decide)
              refine xi_iaload (pc' := 8) (v := v47) kc_12_7 rfl A46 (by decide) rfl (xi_in (by decide) (by rw [hy46]; decide)) ev47 ?_
              refine xi_iconst (pc' := 9) (v := 1) kc_12_8 rfl rfl ?_
              obtain ⟨v48, ev48⟩ : ∃ q : Int32, (v47 : Int32) + 1 = q := ⟨_, rfl⟩
              have rv48 := xc_rng v48
              refine xi_iadd (pc' := 10) (v := v48) kc_12_9 rfl ev48 ?_
              obtain ⟨y49, s49, hy49, ry49⟩ := xj_set (v := v48) hy46 ry46 2 (by first | omega | decide) (by first | omega | decide)
              refine xi_iastore (pc' := 11) (x' := y49) kc_12_10 rfl A46 rfl (xi_in (by decide) (by rw [hy46]; decide)) s49 (fun hh49 eh49 => ?_)
              have K50 := xk_pa K17 (xk_wa (by decide +kernel)) xD_140 hy49 ry49 eh49
              refine xi_iload_n (pc' := 12) (x := (-2)) kc_12_11 rfl rfl ?_
              refine xi_ireturn kc_12_12 mr_12 rfl ?_
              show xw J ov (d + 6) 46 (39, [(0, .ref 115), (1, .int x1), (2, .int x2)], [.int (-2)], hh49) _
              refine xi_ireturn kc_46_39 mr_46 rfl ?_
              have zcm2 : ((-2) : Int32).toInt = (-2) := by decide
              exact kk (-2) hh49 K50
            · refine xi_cmf (pc' := 10) kc_11_7 rfl (xc_gt_f (X := x1.toInt) (Y := 63) rfl (by decide) (by omega)) ?_
              refine xi_iconst (pc' := 11) (v := 1) kc_11_10 rfl rfl ?_
              refine xi_goto (pc' := 15) kc_11_11 rfl ?_
              refine xi_ireturn kc_11_15 mr_11 rfl ?_
              show xw J ov (d + 6) 46 (30, [(0, .ref 115), (1, .int x1), (2, .int x2)], [.int 1], hh16) _
              refine xi_ift (pc' := 40) kc_46_30 rfl rfl ?_
              refine xi_aload_n (pc' := 41) (x := 115) kc_46_40 rfl rfl ?_
              refine xi_virtual (mj := 44) (as := []) (st1 := []) (lv0 := [(0, .ref 115)]) kc_46_41 rfl rfl rfl rfl rfl eh15.1 (Nat.le_of_ble_eq_true rfl) (hJ _ _ _ _ (by decide)) (xm_le ml_44 rfl) rfl ?_
              refine mt_44_0 hJ hov1 hov2 (d := d + 4)  K17.1 (fun hh52 K53 => ?_)
              have K54 := xk_tr K17 K53 (xsb_ok _ _ (by decide +kernel))
              obtain ⟨u55, u56, u57, u58, u59, u60, u61, u62, u63, u64, u65, u66, u67, bu55, bu56, bu57, bu58, bu59, bu60, bu61, bu62, bu63, bu64, bu65, bu66, bu67, A68⟩ := xq_115 K54.1
              have e69 : u2 = u56 := xk_eqi (q := 1) K53 (by decide +kernel) eh15.1 A68 rfl rfl
              subst e69
              have e70 : u5 = u59 := xk_eqi (q := 23) K53 (by decide +kernel) eh15.1 A68 rfl rfl
              subst e70
              have e71 : u8 = u62 := xk_eqi (q := 34) K53 (by decide +kernel) eh15.1 A68 rfl rfl
              subst e71
              have e72 : u6 = u60 := xk_eqi (q := 32) K53 (by decide +kernel) eh15.1 A68 rfl rfl
              subst e72
              have A73 := xk_eqa (q := 0) K53 (by decide +kernel) A30
              show xw J ov (d + 6) 46 (44, [(0, .ref 115), (1, .int x1), (2, .int x2)], [], hh52) _
              refine xi_aload_n (pc' := 45) (x := 115) kc_46_44 rfl rfl ?_
              refine xi_iload_n (pc' := 46) (x := x1) kc_46_45 rfl rfl ?_
              refine xi_virtual (mj := 45) (as := [.int x1]) (st1 := []) (lv0 := [(0, .ref 115), (1, .int x1)]) kc_46_46 rfl rfl rfl rfl rfl A68 (Nat.le_of_ble_eq_true rfl) (hJ _ _ _ _ (by decide)) (xm_le ml_45 rfl) rfl ?_
              refine mt_45_0 hJ hov1 hov2 (d := d) (x1 := x1) K54.1 (by first | omega | decide) (fun r74 hh75 K76 => ?_)
              have K77 := xk_tr K54 K76 (xsb_ok _ _ (by decide +kernel))
              obtain ⟨u78, u79, u80, u81, u82, u83, u84, u85, u86, u87, u88, u89, u90, bu78, bu79, bu80, bu81, bu82, bu83, bu84, bu85, bu86, bu87, bu88, bu89, bu90, A91⟩ := xq_115 K77.1
              have e92 : u2 = u79 := xk_eqi (q := 1) K76 (by decide +kernel) A68 A91 rfl rfl
              subst e92
              have e93 : u5 = u82 := xk_eqi (q := 23) K76 (by decide +kernel) A68 A91 rfl rfl
              subst e93
              have e94 : u8 = u85 := xk_eqi (q := 34) K76 (by decide +kernel) A68 A91 rfl rfl
              subst e94
              have A95 := xk_eqa (q := 0) K76 (by decide +kernel) A73
              show xw J ov (d + 6) 46 (49, [(0, .ref 115), (1, .int x1), (2, .int x2)], [.long r74], hh75) _
              refine xi_lstore_n (pc' := 50) (lv' := [(3, .long r74), (0, .ref 115), (1, .int x1), (2, .int x2)]) kc_46_49 rfl rfl (xm_lt ml_46 rfl) ?_
              refine xi_aload_n (pc' := 51) (x := 115) kc_46_50 rfl rfl ?_
              refine xi_getfield (pc' := 54) (v := .ref 142) kc_46_51 rfl rfl rfl A91 rfl ?_
              refine xi_iload_n (pc' := 55) (x := x2) kc_46_54 rfl rfl ?_
              obtain ⟨y96, A96, hy96, ry96⟩ := xk_arr K77.1 xD_142
              obtain ⟨v97, ev97, bv97, dv97⟩ := xj_get hy96 ry96 (i := x2) (by omega) (by omega)
              refine xi_iaload (pc' := 56) (v := v97) kc_46_55 rfl A96 (by decide) rfl (xi_in (by omega) (by rw [hy96]; omega)) ev97 ?_
              refine xi_ireturn kc_46_56 mr_46 rfl ?_
              exact kk v97 hh75 K77
        · refine xi_cmf (pc' := 10) kc_42_7 rfl (xc_ge_f (X := u5.toInt) (Y := 6) rfl (by decide) (by omega)) ?_
          refine xi_aload_n (pc' := 11) (x := 115) kc_42_10 rfl rfl ?_
          refine xi_getfield (pc' := 14) (v := .int u5) kc_42_11 rfl rfl rfl eh15.1 rfl ?_
          refine xi_goto (pc' := 19) kc_42_14 rfl ?_
          obtain ⟨v98, ev98⟩ : ∃ q : Int32, (1 : Int32) <<< (u5 &&& 31) = q := ⟨_, rfl⟩
          have rv98 := xc_rng v98
          have bv98 : 1 ≤ v98.toInt ∧ v98.toInt ≤ 64 := by rw [← ev98]; exact xj_shl6 (by omega) (by omega)
          refine xi_ishl (pc' := 20) (v := v98) kc_42_19 rfl ev98 ?_
          refine xi_ireturn kc_42_20 mr_42 rfl ?_
          show xw J ov (d + 6) 46 (25, [(0, .ref 115), (1, .int x1), (2, .int x2)], [.int v98, .int 0, .int x1], hh16) _
          refine xi_iconst (pc' := 26) (v := 1) kc_46_25 rfl rfl ?_
          obtain ⟨v99, ev99⟩ : ∃ q : Int32, v98 - 1 = q := ⟨_, rfl⟩
          have zv99 : v99.toInt = (v98.toInt + (-1)) := by rw [← ev99]; exact (xz_sub (X := v98.toInt) (Y := 1) rfl (by decide) (by omega) (by omega)).trans (by omega)
          refine xi_isub (pc' := 27) (v := v99) kc_46_26 rfl ev99 ?_
          refine xi_static (mj := 11) (as := [.int x1, .int 0, .int v99]) (st1 := []) (lv0 := [(0, .int x1), (1, .int 0), (2, .int v99)]) kc_46_27 rfl rfl (Nat.le_of_ble_eq_true rfl) rfl rfl (Nat.le_of_ble_eq_true rfl) (hJ _ _ _ _ (by decide)) (xm_le ml_11 rfl) rfl ?_
          refine xi_iload_n (pc' := 1) (x := x1) kc_11_0 rfl rfl ?_
          refine xi_iload_n (pc' := 2) (x := 0) kc_11_1 rfl rfl ?_
          by_cases c100 : x1.toInt < 0
          · refine xi_cmt (pc' := 14) kc_11_2 rfl (xc_lt_t (X := x1.toInt) (Y := 0) rfl (by decide) (by omega)) ?_
            refine xi_iconst (pc' := 15) (v := 0) kc_11_14 rfl rfl ?_
            refine xi_ireturn kc_11_15 mr_11 rfl ?_
            show xw J ov (d + 6) 46 (30, [(0, .ref 115), (1, .int x1), (2, .int x2)], [.int 0], hh16) _
            refine xi_iff (pc' := 33) kc_46_30 rfl rfl ?_
            refine xi_aload_n (pc' := 34) (x := 115) kc_46_33 rfl rfl ?_
            refine xi_bipush (pc' := 36) (v := (-2)) kc_46_34 rfl rfl ?_
            refine xi_virtual (mj := 12) (as := [.int (-2)]) (st1 := []) (lv0 := [(0, .ref 115), (1, .int (-2))]) kc_46_36 rfl rfl rfl rfl rfl eh15.1 (Nat.le_of_ble_eq_true rfl) (hJ _ _ _ _ (by decide)) (xm_le ml_12 rfl) rfl ?_
            refine xi_aload_n (pc' := 1) (x := 115) kc_12_0 rfl rfl ?_
            refine xi_getfield (pc' := 4) (v := .ref 140) kc_12_1 rfl rfl rfl eh15.1 rfl ?_
            refine xi_iload_n (pc' := 5) (x := (-2)) kc_12_4 rfl rfl ?_
            refine xi_ineg (pc' := 6) (v := 2) kc_12_5 rfl rfl ?_
            refine xi_dup2 (pc' := 7) kc_12_6 rfl ⟨rfl, rfl⟩ ?_
            obtain ⟨y101, A101, hy101, ry101⟩ := xk_arr K17.1 xD_140
            obtain ⟨v102, ev102, bv102, dv102⟩ := xj_get hy101 ry101 (i := 2) (by decide) (by decide)
            refine xi_iaload (pc' := 8) (v := v102) kc_12_7 rfl A101 (by decide) rfl (xi_in (by decide) (by rw [hy101]; decide)) ev102 ?_
            refine xi_iconst (pc' := 9) (v := 1) kc_12_8 rfl rfl ?_
            obtain ⟨v103, ev103⟩ : ∃ q : Int32, (v102 : Int32) + 1 = q := ⟨_, rfl⟩
            have rv103 := xc_rng v103
            refine xi_iadd (pc' := 10) (v := v103) kc_12_9 rfl ev103 ?_
            obtain ⟨y104, s104, hy104, ry104⟩ := xj_set (v := v103) hy101 ry101 2 (by first | omega | decide) (by first | omega | decide)
            refine xi_iastore (pc' := 11) (x' := y104) kc_12_10 rfl A101 rfl (xi_in (by decide) (by rw [hy101]; decide)) s104 (fun hh104 eh104 => ?_)
            have K105 := xk_pa K17 (xk_wa (by decide +kernel)) xD_140 hy104 ry104 eh104
            refine xi_iload_n (pc' := 12) (x := (-2)) kc_12_11 rfl rfl ?_
            refine xi_ireturn kc_12_12 mr_12 rfl ?_
            show xw J ov (d + 6) 46 (39, [(0, .ref 115), (1, .int x1), (2, .int x2)], [.int (-2)], hh104) _
            refine xi_ireturn kc_46_39 mr_46 rfl ?_
            have zcm2 : ((-2) : Int32).toInt = (-2) := by decide
            exact kk (-2) hh104 K105
          · refine xi_cmf (pc' := 5) kc_11_2 rfl (xc_lt_f (X := x1.toInt) (Y := 0) rfl (by decide) (by omega)) ?_
            refine xi_iload_n (pc' := 6) (x := x1) kc_11_5 rfl rfl ?_
            refine xi_iload_n (pc' := 7) (x := v99) kc_11_6 rfl rfl ?_
            by_cases c106 : (v98.toInt + (-1)) < x1.toInt
            · refine xi_cmt (pc' := 14) kc_11_7 rfl (xc_gt_t (X := x1.toInt) (Y := (v98.toInt + (-1))) rfl zv99 (by omega)) ?_
              refine xi_iconst (pc' := 15) (v := 0) kc_11_14 rfl rfl ?_
              refine xi_ireturn kc_11_15 mr_11 rfl ?_
              show xw J ov (d + 6) 46 (30, [(0, .ref 115), (1, .int x1), (2, .int x2)], [.int 0], hh16) _
              refine xi_iff (pc' := 33) kc_46_30 rfl rfl ?_
              refine xi_aload_n (pc' := 34) (x := 115) kc_46_33 rfl rfl ?_
              refine xi_bipush (pc' := 36) (v := (-2)) kc_46_34 rfl rfl ?_
              refine xi_virtual (mj := 12) (as := [.int (-2)]) (st1 := []) (lv0 := [(0, .ref 115), (1, .int (-2))]) kc_46_36 rfl rfl rfl rfl rfl eh15.1 (Nat.le_of_ble_eq_true rfl) (hJ _ _ _ _ (by decide)) (xm_le ml_12 rfl) rfl ?_
              refine xi_aload_n (pc' := 1) (x := 115) kc_12_0 rfl rfl ?_
              refine xi_getfield (pc' := 4) (v := .ref 140) kc_12_1 rfl rfl rfl eh15.1 rfl ?_
              refine xi_iload_n (pc' := 5) (x := (-2)) kc_12_4 rfl rfl ?_
              refine xi_ineg (pc' := 6) (v := 2) kc_12_5 rfl rfl ?_
              refine xi_dup2 (pc' := 7) kc_12_6 rfl ⟨rfl, rfl⟩ ?_
              obtain ⟨y107, A107, hy107, ry107⟩ := xk_arr K17.1 xD_140
              obtain ⟨v108, ev108, bv108, dv108⟩ := xj_get hy107 ry107 (i := 2) (by decide) (by decide)
              refine xi_iaload (pc' := 8) (v := v108) kc_12_7 rfl A107 (by decide) rfl (xi_in (by decide) (by rw [hy107]; decide)) ev108 ?_
              refine xi_iconst (pc' := 9) (v := 1) kc_12_8 rfl rfl ?_
              obtain ⟨v109, ev109⟩ : ∃ q : Int32, (v108 : Int32) + 1 = q := ⟨_, rfl⟩
              have rv109 := xc_rng v109
              refine xi_iadd (pc' := 10) (v := v109) kc_12_9 rfl ev109 ?_
              obtain ⟨y110, s110, hy110, ry110⟩ := xj_set (v := v109) hy107 ry107 2 (by first | omega | decide) (by first | omega | decide)
              refine xi_iastore (pc' := 11) (x' := y110) kc_12_10 rfl A107 rfl (xi_in (by decide) (by rw [hy107]; decide)) s110 (fun hh110 eh110 => ?_)
              have K111 := xk_pa K17 (xk_wa (by decide +kernel)) xD_140 hy110 ry110 eh110
              refine xi_iload_n (pc' := 12) (x := (-2)) kc_12_11 rfl rfl ?_
              refine xi_ireturn kc_12_12 mr_12 rfl ?_
              show xw J ov (d + 6) 46 (39, [(0, .ref 115), (1, .int x1), (2, .int x2)], [.int (-2)], hh110) _
              refine xi_ireturn kc_46_39 mr_46 rfl ?_
              have zcm2 : ((-2) : Int32).toInt = (-2) := by decide
              exact kk (-2) hh110 K111
            · refine xi_cmf (pc' := 10) kc_11_7 rfl (xc_gt_f (X := x1.toInt) (Y := (v98.toInt + (-1))) rfl zv99 (by omega)) ?_
              refine xi_iconst (pc' := 11) (v := 1) kc_11_10 rfl rfl ?_
              refine xi_goto (pc' := 15) kc_11_11 rfl ?_
              refine xi_ireturn kc_11_15 mr_11 rfl ?_
              show xw J ov (d + 6) 46 (30, [(0, .ref 115), (1, .int x1), (2, .int x2)], [.int 1], hh16) _
              refine xi_ift (pc' := 40) kc_46_30 rfl rfl ?_
              refine xi_aload_n (pc' := 41) (x := 115) kc_46_40 rfl rfl ?_
              refine xi_virtual (mj := 44) (as := []) (st1 := []) (lv0 := [(0, .ref 115)]) kc_46_41 rfl rfl rfl rfl rfl eh15.1 (Nat.le_of_ble_eq_true rfl) (hJ _ _ _ _ (by decide)) (xm_le ml_44 rfl) rfl ?_
              refine mt_44_0 hJ hov1 hov2 (d := d + 4)  K17.1 (fun hh113 K114 => ?_)
              have K115 := xk_tr K17 K114 (xsb_ok _ _ (by decide +kernel))
              obtain ⟨u116, u117, u118, u119, u120, u121, u122, u123, u124, u125, u126, u127, u128, bu116, bu117, bu118, bu119, bu120, bu121, bu122, bu123, bu124, bu125, bu126, bu127, bu128, A129⟩ := xq_115 K115.1
              have e130 : u2 = u117 := xk_eqi (q := 1) K114 (by decide +kernel) eh15.1 A129 rfl rfl
              subst e130
              have e131 : u5 = u120 := xk_eqi (q := 23) K114 (by decide +kernel) eh15.1 A129 rfl rfl
              subst e131
              have e132 : u8 = u123 := xk_eqi (q := 34) K114 (by decide +kernel) eh15.1 A129 rfl rfl
              subst e132
              have e133 : u6 = u121 := xk_eqi (q := 32) K114 (by decide +kernel) eh15.1 A129 rfl rfl
              subst e133
              have A134 := xk_eqa (q := 0) K114 (by decide +kernel) A30
              show xw J ov (d + 6) 46 (44, [(0, .ref 115), (1, .int x1), (2, .int x2)], [], hh113) _
              refine xi_aload_n (pc' := 45) (x := 115) kc_46_44 rfl rfl ?_
              refine xi_iload_n (pc' := 46) (x := x1) kc_46_45 rfl rfl ?_
              refine xi_virtual (mj := 45) (as := [.int x1]) (st1 := []) (lv0 := [(0, .ref 115), (1, .int x1)]) kc_46_46 rfl rfl rfl rfl rfl A129 (Nat.le_of_ble_eq_true rfl) (hJ _ _ _ _ (by decide)) (xm_le ml_45 rfl) rfl ?_
              refine mt_45_0 hJ hov1 hov2 (d := d) (x1 := x1) K115.1 (by first | omega | decide) (fun r135 hh136 K137 => ?_)
              have K138 := xk_tr K115 K137 (xsb_ok _ _ (by decide +kernel))
              obtain ⟨u139, u140, u141, u142, u143, u144, u145, u146, u147, u148, u149, u150, u151, bu139, bu140, bu141, bu142, bu143, bu144, bu145, bu146, bu147, bu148, bu149, bu150, bu151, A152⟩ := xq_115 K138.1
              have e153 : u2 = u140 := xk_eqi (q := 1) K137 (by decide +kernel) A129 A152 rfl rfl
              subst e153
              have e154 : u5 = u143 := xk_eqi (q := 23) K137 (by decide +kernel) A129 A152 rfl rfl
              subst e154
              have e155 : u8 = u146 := xk_eqi (q := 34) K137 (by decide +kernel) A129 A152 rfl rfl
              subst e155
              have A156 := xk_eqa (q := 0) K137 (by decide +kernel) A134
              show xw J ov (d + 6) 46 (49, [(0, .ref 115), (1, .int x1), (2, .int x2)], [.long r135], hh136) _
              refine xi_lstore_n (pc' := 50) (lv' := [(3, .long r135), (0, .ref 115), (1, .int x1), (2, .int x2)]) kc_46_49 rfl rfl (xm_lt ml_46 rfl) ?_
              refine xi_aload_n (pc' := 51) (x := 115) kc_46_50 rfl rfl ?_
              refine xi_getfield (pc' := 54) (v := .ref 142) kc_46_51 rfl rfl rfl A152 rfl ?_
              refine xi_iload_n (pc' := 55) (x := x2) kc_46_54 rfl rfl ?_
              obtain ⟨y157, A157, hy157, ry157⟩ := xk_arr K138.1 xD_142
              obtain ⟨v158, ev158, bv158, dv158⟩ := xj_get hy157 ry157 (i := x2) (by omega) (by omega)
              refine xi_iaload (pc' := 56) (v := v158) kc_46_55 rfl A157 (by decide) rfl (xi_in (by omega) (by rw [hy157]; omega)) ev158 ?_
              refine xi_ireturn kc_46_56 mr_46 rfl ?_
              exact kk v158 hh136 K138
set_option maxHeartbeats 4000000 in
theorem lp_49_0 {J : xe_J} {ov : List (List Int32)} (hJ : ∀ d mj as h, mj ≠ xe_loff → J d mj as h = none) (hov1 : ov[1]? = some [10, 0, 0, 0, 0, 0]) (hov2 : ov[2]? = some [99, 30, 50, 50, 1, 99999]) {d : Nat} {Q : Option Value → xe_H → Prop} {hb : xe_H} (kk : (∀ (r : Int32) (h' : xe_H), xk xP_0 hb h' → Q (some (.int r)) h')) : ∀ m : Nat, (∀ (x1 : Int32) (x2 : Int32) (h : xe_H), xk xP_0 hb h → (1) * x2.toInt + 2147483648 < (m : Int) → xw J ov (d + 1) 49 (4, [(1, .int x1), (2, .int x2)], [], h) Q) := by
  intro m
  induction m with
  | zero =>
    intro x1 x2 h K hm; have rx1 := xc_rng x1; have rx2 := xc_rng x2; exfalso; omega
  | succ m ih =>
    have i0 := ih
    intro x1 x2 h K hm
    have rx1 := xc_rng x1
    have rx2 := xc_rng x2
    refine xi_iload_n (pc' := 5) (x := x2) kc_49_4 rfl rfl ?_
    by_cases c1 : x2.toInt ≤ 0
    · refine xi_ift (pc' := 21) kc_49_5 rfl (xc_le_t (X := x2.toInt) (Y := 0) rfl (by decide) (by omega)) ?_
      refine xi_iload_n (pc' := 22) (x := x1) kc_49_21 rfl rfl ?_
      refine xi_ireturn kc_49_22 mr_49 rfl ?_
      exact kk x1 h K
    · refine xi_iff (pc' := 8) kc_49_5 rfl (xc_le_f (X := x2.toInt) (Y := 0) rfl (by decide) (by omega)) ?_
      refine xi_iload_n (pc' := 9) (x := x1) kc_49_8 rfl rfl ?_
      refine xi_iload_n (pc' := 10) (x := x2) kc_49_9 rfl rfl ?_
      refine xi_iconst (pc' := 11) (v := 2) kc_49_10 rfl rfl ?_
      obtain ⟨v2, ev2⟩ : ∃ q : Int32, x2 - x2 / 2 * 2 = q := ⟨_, rfl⟩
      have dv2 : v2.toInt = x2.toInt % 2 := by rw [← ev2]; exact xz_reme (X := x2.toInt) (Y := 2) rfl (by decide) (by omega) (by decide)
      have bv2 : 0 ≤ v2.toInt ∧ v2.toInt ≤ 1 := by omega
      refine xi_irem (pc' := 12) (v := v2) kc_49_11 rfl ev2 (by decide) ?_
      obtain ⟨v3, ev3⟩ : ∃ q : Int32, (x1 : Int32) + v2 = q := ⟨_, rfl⟩
      have rv3 := xc_rng v3
      refine xi_iadd (pc' := 13) (v := v3) kc_49_12 rfl ev3 ?_
      refine xi_istore_n (pc' := 14) (lv' := [(1, .int v3), (2, .int x2)]) kc_49_13 rfl rfl (xm_lt ml_49 rfl) ?_
      refine xi_iload_n (pc' := 15) (x := x2) kc_49_14 rfl rfl ?_
      refine xi_iconst (pc' := 16) (v := 2) kc_49_15 rfl rfl ?_
      obtain ⟨v4, ev4⟩ : ∃ q : Int32, x2 / 2 = q := ⟨_, rfl⟩
      have dv4 : v4.toInt = x2.toInt / 2 := by rw [← ev4]; exact xz_dive (X := x2.toInt) (Y := 2) rfl (by decide) (by omega) (by decide)
      have bv4 : 0 ≤ v4.toInt ∧ v4.toInt ≤ 1073741823 := by omega
      refine xi_idiv (pc' := 17) (v := v4) kc_49_16 rfl ev4 (by decide) ?_
      refine xi_istore_n (pc' := 18) (lv' := [(2, .int v4), (1, .int v3)]) kc_49_17 rfl rfl (xm_lt ml_49 rfl) ?_
      refine xi_goto (pc' := 4) kc_49_18 rfl ?_
      refine xw_lv (b := [(1, .int v3), (2, .int v4)]) (lvS_cons (lvS_cons (lvS_nil (show ([2, 1] : List Nat).Nodup by decide)) rfl) rfl) ?_
      exact i0 v3 v4 h K (by omega)
set_option maxHeartbeats 4000000 in
theorem mt_49_0 {J : xe_J} {ov : List (List Int32)} (hJ : ∀ d mj as h, mj ≠ xe_loff → J d mj as h = none) (hov1 : ov[1]? = some [10, 0, 0, 0, 0, 0]) (hov2 : ov[2]? = some [99, 30, 50, 50, 1, 99999]) {d : Nat} {Q : Option Value → xe_H → Prop} {h : xe_H} {x0 : Int32} (T : xt h) (kk : (∀ (r : Int32) (h' : xe_H), xk xP_0 h h' → Q (some (.int r)) h')) : xw J ov (d + 1) 49 (0, [(0, .int x0)], [], h) Q := by
  have K : xk xP_0 h h := xk_re T
  have rx0 := xc_rng x0
  refine xi_iconst (pc' := 1) (v := 0) kc_49_0 rfl rfl ?_
  refine xi_istore_n (pc' := 2) (lv' := [(1, .int 0), (0, .int x0)]) kc_49_1 rfl rfl (xm_lt ml_49 rfl) ?_
  refine xi_iload_n (pc' := 3) (x := x0) kc_49_2 rfl rfl ?_
  refine xi_istore_n (pc' := 4) (lv' := [(2, .int x0), (1, .int 0), (0, .int x0)]) kc_49_3 rfl rfl (xm_lt ml_49 rfl) ?_
  have zc0 : (0 : Int32).toInt = 0 := by decide
  refine xw_lv (b := [(1, .int 0), (2, .int x0)]) (lvS_cons (lvS_cons (lvS_nil (show ([2, 1, 0] : List Nat).Nodup by decide)) rfl) rfl) ?_
  exact (lp_49_0 hJ hov1 hov2 (d := d) (hb := h) (fun r9 h9 K9 => kk r9 h9 (xk_tr K K9 (xsb_ok _ _ (by decide +kernel)))) 4294967296) 0 x0 h (xk_re K.1) (by omega)
set_option maxHeartbeats 4000000 in
theorem lp_48_0 {J : xe_J} {ov : List (List Int32)} (hJ : ∀ d mj as h, mj ≠ xe_loff → J d mj as h = none) (hov1 : ov[1]? = some [10, 0, 0, 0, 0, 0]) (hov2 : ov[2]? = some [99, 30, 50, 50, 1, 99999]) {d : Nat} {Q : Option Value → xe_H → Prop} {hb : xe_H} (kk : (∀ (r : Int32) (h' : xe_H), (0 ≤ r.toInt ∧ r.toInt ≤ 63) → xk xP_0 hb h' → Q (some (.int r)) h')) : ∀ m : Nat, (∀ (x1 : Int32) (x2 : Int32) (h : xe_H), (0 ≤ x1.toInt ∧ x1.toInt ≤ 63) → (1 ≤ x2.toInt ∧ x2.toInt ≤ 64) → xk xP_0 hb h → (-1) * x2.toInt + 64 < (m : Int) → xw J ov (d + 7) 48 (8, [(0, .ref 115), (1, .int x1), (2, .int x2)], [], h) Q) := by
  intro m
  induction m with
  | zero =>
    intro x1 x2 h b1 b2 K hm; exfalso; omega
  | succ m ih =>
    have i0 := ih
    intro x1 x2 h b1 b2 K hm
    refine xi_iload_n (pc' := 9) (x := x2) kc_48_8 rfl rfl ?_
    refine xi_aload_n (pc' := 10) (x := 115) kc_48_9 rfl rfl ?_
    obtain ⟨u1, u2, u3, u4, u5, u6, u7, u8, u9, u10, u11, u12, u13, bu1, bu2, bu3, bu4, bu5, bu6, bu7, bu8, bu9, bu10, bu11, bu12, bu13, A14⟩ := xq_115 K.1
    refine xi_virtual (mj := 42) (as := []) (st1 := [.int x2]) (lv0 := [(0, .ref 115)]) kc_48_10 rfl rfl rfl rfl rfl A14 (Nat.le_of_ble_eq_true rfl) (hJ _ _ _ _ (by decide)) (xm_le ml_42 rfl) rfl ?_
    refine xi_iconst (pc' := 1) (v := 1) kc_42_0 rfl rfl ?_
    refine xi_aload_n (pc' := 2) (x := 115) kc_42_1 rfl rfl ?_
    refine xi_getfield (pc' := 5) (v := .int u5) kc_42_2 rfl rfl rfl A14 rfl ?_
    refine xi_bipush (pc' := 7) (v := 6) kc_42_5 rfl rfl ?_
    by_cases c15 : 6 ≤ u5.toInt
    · refine xi_cmt (pc' := 17) kc_42_7 rfl (xc_ge_t (X := u5.toInt) (Y := 6) rfl (by decide) (by omega)) ?_
      refine xi_bipush (pc' := 19) (v := 6) kc_42_17 rfl rfl ?_
      refine xi_ishl (pc' := 20) (v := 64) kc_42_19 rfl rfl ?_
      refine xi_ireturn kc_42_20 mr_42 rfl ?_
      show xw J ov (d + 7) 48 (13, [(0, .ref 115), (1, .int x1), (2, .int x2)], [.int 64, .int x2], h) _
      by_cases c16 : 64 ≤ x2.toInt
      · refine xi_cmt (pc' := 81) kc_48_13 rfl (xc_ge_t (X := x2.toInt) (Y := 64) rfl (by decide) (by omega)) ?_
        refine xi_iload_n (pc' := 82) (x := x1) kc_48_81 rfl rfl ?_
        refine xi_ireturn kc_48_82 mr_48 rfl ?_
        exact kk x1 h (by omega) K
      · refine xi_cmf (pc' := 16) kc_48_13 rfl (xc_ge_f (X := x2.toInt) (Y := 64) rfl (by decide) (by omega)) ?_
        refine xi_aload_n (pc' := 17) (x := 115) kc_48_16 rfl rfl ?_
        refine xi_getfield (pc' := 20) (v := .ref 149) kc_48_17 rfl rfl rfl A14 rfl ?_
        refine xi_iload_n (pc' := 21) (x := x2) kc_48_20 rfl rfl ?_
        obtain ⟨y17, A17, hy17⟩ := xk_larr K.1 xD_149
        obtain ⟨v18, ev18⟩ : ∃ q : Int64, y17.getD (Int32.toNatClampNeg x2) 0 = q := ⟨_, rfl⟩
        refine xi_laload (pc' := 22) (v := v18) kc_48_21 rfl A17 rfl (xi_in (by omega) (by rw [hy17]; omega)) ev18 ?_
        refine xi_aload_n (pc' := 23) (x := 115) kc_48_22 rfl rfl ?_
        refine xi_getfield (pc' := 26) (v := .ref 149) kc_48_23 rfl rfl rfl A14 rfl ?_
        refine xi_iload_n (pc' := 27) (x := x1) kc_48_26 rfl rfl ?_
        obtain ⟨v19, ev19⟩ : ∃ q : Int64, y17.getD (Int32.toNatClampNeg x1) 0 = q := ⟨_, rfl⟩
        refine xi_laload (pc' := 28) (v := v19) kc_48_27 rfl A17 rfl (xi_in (by omega) (by rw [hy17]; omega)) ev19 ?_
        obtain ⟨v20, ev20⟩ : ∃ q : Int32, lg_cmp v18 v19 = q := ⟨_, rfl⟩
        have rv20 := xc_rng v20
        refine xi_lcmp (pc' := 29) (v := v20) kc_48_28 rfl ev20 ?_
        by_cases c21 : v20.toInt < 0
        · refine xi_ift (pc' := 59) kc_48_29 rfl (xc_lt_t (X := v20.toInt) (Y := 0) rfl (by decide) (by omega)) ?_
          refine xi_iconst (pc' := 60) (v := 1) kc_48_59 rfl rfl ?_
          refine xi_goto (pc' := 64) kc_48_60 rfl ?_
          refine xi_istore_n (pc' := 65) (lv' := [(3, .int 1), (0, .ref 115), (1, .int x1), (2, .int x2)]) kc_48_64 rfl rfl (xm_lt ml_48 rfl) ?_
          refine xi_iload_n (pc' := 66) (x := 1) kc_48_65 rfl rfl ?_
          refine xi_iff (pc' := 69) kc_48_66 rfl rfl ?_
          refine xi_iload_n (pc' := 70) (x := x2) kc_48_69 rfl rfl ?_
          refine xi_goto (pc' := 74) kc_48_70 rfl ?_
          refine xi_istore_n (pc' := 75) (lv' := [(1, .int x2), (3, .int 1), (0, .ref 115), (2, .int x2)]) kc_48_74 rfl rfl (xm_lt ml_48 rfl) ?_
          obtain ⟨v22, ev22⟩ : ∃ q : Int32, x2 + 1 = q := ⟨_, rfl⟩
          have zv22 : v22.toInt = (x2.toInt + 1) := by rw [← ev22]; exact (xz_add (X := x2.toInt) (Y := 1) rfl (by decide) (by omega) (by omega)).trans (by omega)
          refine xi_iinc (pc' := 78) (x := x2) (v := v22) (lv' := [(2, .int v22), (1, .int x2), (3, .int 1), (0, .ref 115)]) kc_48_75 rfl rfl ev22 rfl (xm_lt ml_48 rfl) ?_
          refine xi_goto (pc' := 8) kc_48_78 rfl ?_
          refine xw_lv (b := [(0, .ref 115), (1, .int x2), (2, .int v22)]) (lvS_cons (lvS_cons (lvS_cons (lvS_nil (show ([2, 1, 3, 0] : List Nat).Nodup by decide)) rfl) rfl) rfl) ?_
          exact i0 x2 v22 h (by omega) (by omega) K (by omega)
        · refine xi_iff (pc' := 32) kc_48_29 rfl (xc_lt_f (X := v20.toInt) (Y := 0) rfl (by decide) (by omega)) ?_
          refine xi_aload_n (pc' := 33) (x := 115) kc_48_32 rfl rfl ?_
          refine xi_getfield (pc' := 36) (v := .ref 149) kc_48_33 rfl rfl rfl A14 rfl ?_
          refine xi_iload_n (pc' := 37) (x := x2) kc_48_36 rfl rfl ?_
          refine xi_laload (pc' := 38) (v := v18) kc_48_37 rfl A17 rfl (xi_in (by omega) (by rw [hy17]; omega)) ev18 ?_
          refine xi_aload_n (pc' := 39) (x := 115) kc_48_38 rfl rfl ?_
          refine xi_getfield (pc' := 42) (v := .ref 149) kc_48_39 rfl rfl rfl A14 rfl ?_
          refine xi_iload_n (pc' := 43) (x := x1) kc_48_42 rfl rfl ?_
          refine xi_laload (pc' := 44) (v := v19) kc_48_43 rfl A17 rfl (xi_in (by omega) (by rw [hy17]; omega)) ev19 ?_
          obtain ⟨v23, ev23⟩ : ∃ q : Int32, lg_cmp v18 v19 = q := ⟨_, rfl⟩
          have rv23 := xc_rng v23
          refine xi_lcmp (pc' := 45) (v := v23) kc_48_44 rfl ev23 ?_
          by_cases c24 : v23.toInt = 0
          · refine xi_iff (pc' := 48) kc_48_45 rfl (xc_ne_f (X := v23.toInt) (Y := 0) rfl (by decide) (by omega)) ?_
            refine xi_iload_n (pc' := 49) (x := x2) kc_48_48 rfl rfl ?_
            refine xi_static (mj := 49) (as := [.int x2]) (st1 := []) (lv0 := [(0, .int x2)]) kc_48_49 rfl rfl (Nat.le_of_ble_eq_true rfl) rfl rfl (Nat.le_of_ble_eq_true rfl) (hJ _ _ _ _ (by decide)) (xm_le ml_49 rfl) rfl ?_
            refine mt_49_0 hJ hov1 hov2 (d := d + 5) (x0 := x2) K.1 (fun r25 hh26 K27 => ?_)
            have br25 := xc_rng r25
            have K28 := xk_tr K K27 (xsb_ok _ _ (by decide +kernel))
            obtain ⟨u29, u30, u31, u32, u33, u34, u35, u36, u37, u38, u39, u40, u41, bu29, bu30, bu31, bu32, bu33, bu34, bu35, bu36, bu37, bu38, bu39, bu40, bu41, A42⟩ := xq_115 K28.1
            have e43 : u2 = u30 := xk_eqi (q := 1) K27 (by decide +kernel) A14 A42 rfl rfl
            subst e43
            have e44 : u5 = u33 := xk_eqi (q := 23) K27 (by decide +kernel) A14 A42 rfl rfl
            subst e44
            have e45 : u8 = u36 := xk_eqi (q := 34) K27 (by decide +kernel) A14 A42 rfl rfl
            subst e45
            have e46 : u6 = u34 := xk_eqi (q := 32) K27 (by decide +kernel) A14 A42 rfl rfl
            subst e46
            show xw J ov (d + 7) 48 (52, [(0, .ref 115), (1, .int x1), (2, .int x2)], [.int r25], hh26) _
            refine xi_iload_n (pc' := 53) (x := x1) kc_48_52 rfl rfl ?_
            refine xi_static (mj := 49) (as := [.int x1]) (st1 := [.int r25]) (lv0 := [(0, .int x1)]) kc_48_53 rfl rfl (Nat.le_of_ble_eq_true rfl) rfl rfl (Nat.le_of_ble_eq_true rfl) (hJ _ _ _ _ (by decide)) (xm_le ml_49 rfl) rfl ?_
            refine mt_49_0 hJ hov1 hov2 (d := d + 5) (x0 := x1) K28.1 (fun r47 hh48 K49 => ?_)
            have br47 := xc_rng r47
            have K50 := xk_tr K28 K49 (xsb_ok _ _ (by decide +kernel))
            obtain ⟨u51, u52, u53, u54, u55, u56, u57, u58, u59, u60, u61, u62, u63, bu51, bu52, bu53, bu54, bu55, bu56, bu57, bu58, bu59, bu60, bu61, bu62, bu63, A64⟩ := xq_115 K50.1
            have e65 : u2 = u52 := xk_eqi (q := 1) K49 (by decide +kernel) A42 A64 rfl rfl
            subst e65
            have e66 : u5 = u55 := xk_eqi (q := 23) K49 (by decide +kernel) A42 A64 rfl rfl
            subst e66
            have e67 : u8 = u58 := xk_eqi (q := 34) K49 (by decide +kernel) A42 A64 rfl rfl
            subst e67
            have e68 : u6 = u56 := xk_eqi (q := 32) K49 (by decide +kernel) A42 A64 rfl rfl
            subst e68
            show xw J ov (d + 7) 48 (56, [(0, .ref 115), (1, .int x1), (2, .int x2)], [.int r47, .int r25], hh48) _
            by_cases c69 : r47.toInt ≤ r25.toInt
            · refine xi_cmt (pc' := 63) kc_48_56 rfl (xc_ge_t (X := r25.toInt) (Y := r47.toInt) rfl rfl (by omega)) ?_
              refine xi_iconst (pc' := 64) (v := 0) kc_48_63 rfl rfl ?_
              refine xi_istore_n (pc' := 65) (lv' := [(3, .int 0), (0, .ref 115), (1, .int x1), (2, .int x2)]) kc_48_64 rfl rfl (xm_lt ml_48 rfl) ?_
              refine xi_iload_n (pc' := 66) (x := 0) kc_48_65 rfl rfl ?_
              refine xi_ift (pc' := 73) kc_48_66 rfl rfl ?_
              refine xi_iload_n (pc' := 74) (x := x1) kc_48_73 rfl rfl ?_
              refine xi_istore_n (pc' := 75) (lv' := [(1, .int x1), (3, .int 0), (0, .ref 115), (2, .int x2)]) kc_48_74 rfl rfl (xm_lt ml_48 rfl) ?_
              obtain ⟨v70, ev70⟩ : ∃ q : Int32, x2 + 1 = q := ⟨_, rfl⟩
              have zv70 : v70.toInt = (x2.toInt + 1) := by rw [← ev70]; exact (xz_add (X := x2.toInt) (Y := 1) rfl (by decide) (by omega) (by omega)).trans (by omega)
              refine xi_iinc (pc' := 78) (x := x2) (v := v70) (lv' := [(2, .int v70), (1, .int x1), (3, .int 0), (0, .ref 115)]) kc_48_75 rfl rfl ev70 rfl (xm_lt ml_48 rfl) ?_
              refine xi_goto (pc' := 8) kc_48_78 rfl ?_
              refine xw_lv (b := [(0, .ref 115), (1, .int x1), (2, .int v70)]) (lvS_cons (lvS_cons (lvS_cons (lvS_nil (show ([2, 1, 3, 0] : List Nat).Nodup by decide)) rfl) rfl) rfl) ?_
              exact i0 x1 v70 hh48 (by omega) (by omega) K50 (by omega)
            · refine xi_cmf (pc' := 59) kc_48_56 rfl (xc_ge_f (X := r25.toInt) (Y := r47.toInt) rfl rfl (by omega)) ?_
              refine xi_iconst (pc' := 60) (v := 1) kc_48_59 rfl rfl ?_
              refine xi_goto (pc' := 64) kc_48_60 rfl ?_
              refine xi_istore_n (pc' := 65) (lv' := [(3, .int 1), (0, .ref 115), (1, .int x1), (2, .int x2)]) kc_48_64 rfl rfl (xm_lt ml_48 rfl) ?_
              refine xi_iload_n (pc' := 66) (x := 1) kc_48_65 rfl rfl ?_
              refine xi_iff (pc' := 69) kc_48_66 rfl rfl ?_
              refine xi_iload_n (pc' := 70) (x := x2) kc_48_69 rfl rfl ?_
              refine xi_goto (pc' := 74) kc_48_70 rfl ?_
              refine xi_istore_n (pc' := 75) (lv' := [(1, .int x2), (3, .int 1), (0, .ref 115), (2, .int x2)]) kc_48_74 rfl rfl (xm_lt ml_48 rfl) ?_
              obtain ⟨v71, ev71⟩ : ∃ q : Int32, x2 + 1 = q := ⟨_, rfl⟩
              have zv71 : v71.toInt = (x2.toInt + 1) := by rw [← ev71]; exact (xz_add (X := x2.toInt) (Y := 1) rfl (by decide) (by omega) (by omega)).trans (by omega)
              refine xi_iinc (pc' := 78) (x := x2) (v := v71) (lv' := [(2, .int v71), (1, .int x2), (3, .int 1), (0, .ref 115)]) kc_48_75 rfl rfl ev71 rfl (xm_lt ml_48 rfl) ?_
              refine xi_goto (pc' := 8) kc_48_78 rfl ?_
              refine xw_lv (b := [(0, .ref 115), (1, .int x2), (2, .int v71)]) (lvS_cons (lvS_cons (lvS_cons (lvS_nil (show ([2, 1, 3, 0] : List Nat).Nodup by decide)) rfl) rfl) rfl) ?_
              exact i0 x2 v71 hh48 (by omega) (by omega) K50 (by omega)
          · refine xi_ift (pc' := 63) kc_48_45 rfl (xc_ne_t (X := v23.toInt) (Y := 0) rfl (by decide) (by omega)) ?_
            refine xi_iconst (pc' := 64) (v := 0) kc_48_63 rfl rfl ?_
            refine xi_istore_n (pc' := 65) (lv' := [(3, .int 0), (0, .ref 115), (1, .int x1), (2, .int x2)]) kc_48_64 rfl rfl (xm_lt ml_48 rfl) ?_
            refine xi_iload_n (pc' := 66) (x := 0) kc_48_65 rfl rfl ?_
            refine xi_ift (pc' := 73) kc_48_66 rfl rfl ?_
            refine xi_iload_n (pc' := 74) (x := x1) kc_48_73 rfl rfl ?_
            refine xi_istore_n (pc' := 75) (lv' := [(1, .int x1), (3, .int 0), (0, .ref 115), (2, .int x2)]) kc_48_74 rfl rfl (xm_lt ml_48 rfl) ?_
            obtain ⟨v72, ev72⟩ : ∃ q : Int32, x2 + 1 = q := ⟨_, rfl⟩
            have zv72 : v72.toInt = (x2.toInt + 1) := by rw [← ev72]; exact (xz_add (X := x2.toInt) (Y := 1) rfl (by decide) (by omega) (by omega)).trans (by omega)
            refine xi_iinc (pc' := 78) (x := x2) (v := v72) (lv' := [(2, .int v72), (1, .int x1), (3, .int 0), (0, .ref 115)]) kc_48_75 rfl rfl ev72 rfl (xm_lt ml_48 rfl) ?_
            refine xi_goto (pc' := 8) kc_48_78 rfl ?_
            refine xw_lv (b := [(0, .ref 115), (1, .int x1), (2, .int v72)]) (lvS_cons (lvS_cons (lvS_cons (lvS_nil (show ([2, 1, 3, 0] : List Nat).Nodup by decide)) rfl) rfl) rfl) ?_
            exact i0 x1 v72 h (by omega) (by omega) K (by omega)
    · refine xi_cmf (pc' := 10) kc_42_7 rfl (xc_ge_f (X := u5.toInt) (Y := 6) rfl (by decide) (by omega)) ?_
      refine xi_aload_n (pc' := 11) (x := 115) kc_42_10 rfl rfl ?_
      refine xi_getfield (pc' := 14) (v := .int u5) kc_42_11 rfl rfl rfl A14 rfl ?_
      refine xi_goto (pc' := 19) kc_42_14 rfl ?_
      obtain ⟨v73, ev73⟩ : ∃ q : Int32, (1 : Int32) <<< (u5 &&& 31) = q := ⟨_, rfl⟩
      have rv73 := xc_rng v73
      have bv73 : 1 ≤ v73.toInt ∧ v73.toInt ≤ 64 := by rw [← ev73]; exact xj_shl6 (by omega) (by omega)
      refine xi_ishl (pc' := 20) (v := v73) kc_42_19 rfl ev73 ?_
      refine xi_ireturn kc_42_20 mr_42 rfl ?_
      show xw J ov (d + 7) 48 (13, [(0, .ref 115), (1, .int x1), (2, .int x2)], [.int v73, .int x2], h) _
      by_cases c74 : v73.toInt ≤ x2.toInt
      · refine xi_cmt (pc' := 81) kc_48_13 rfl (xc_ge_t (X := x2.toInt) (Y := v73.toInt) rfl rfl (by omega)) ?_
        refine xi_iload_n (pc' := 82) (x := x1) kc_48_81 rfl rfl ?_
        refine xi_ireturn kc_48_82 mr_48 rfl ?_
        exact kk x1 h (by omega) K
      · refine xi_cmf (pc' := 16) kc_48_13 rfl (xc_ge_f (X := x2.toInt) (Y := v73.toInt) rfl rfl (by omega)) ?_
        refine xi_aload_n (pc' := 17) (x := 115) kc_48_16 rfl rfl ?_
        refine xi_getfield (pc' := 20) (v := .ref 149) kc_48_17 rfl rfl rfl A14 rfl ?_
        refine xi_iload_n (pc' := 21) (x := x2) kc_48_20 rfl rfl ?_
        obtain ⟨y75, A75, hy75⟩ := xk_larr K.1 xD_149
        obtain ⟨v76, ev76⟩ : ∃ q : Int64, y75.getD (Int32.toNatClampNeg x2) 0 = q := ⟨_, rfl⟩
        refine xi_laload (pc' := 22) (v := v76) kc_48_21 rfl A75 rfl (xi_in (by omega) (by rw [hy75]; omega)) ev76 ?_
        refine xi_aload_n (pc' := 23) (x := 115) kc_48_22 rfl rfl ?_
        refine xi_getfield (pc' := 26) (v := .ref 149) kc_48_23 rfl rfl rfl A14 rfl ?_
        refine xi_iload_n (pc' := 27) (x := x1) kc_48_26 rfl rfl ?_
        obtain ⟨v77, ev77⟩ : ∃ q : Int64, y75.getD (Int32.toNatClampNeg x1) 0 = q := ⟨_, rfl⟩
        refine xi_laload (pc' := 28) (v := v77) kc_48_27 rfl A75 rfl (xi_in (by omega) (by rw [hy75]; omega)) ev77 ?_
        obtain ⟨v78, ev78⟩ : ∃ q : Int32, lg_cmp v76 v77 = q := ⟨_, rfl⟩
        have rv78 := xc_rng v78
        refine xi_lcmp (pc' := 29) (v := v78) kc_48_28 rfl ev78 ?_
        by_cases c79 : v78.toInt < 0
        · refine xi_ift (pc' := 59) kc_48_29 rfl (xc_lt_t (X := v78.toInt) (Y := 0) rfl (by decide) (by omega)) ?_
          refine xi_iconst (pc' := 60) (v := 1) kc_48_59 rfl rfl ?_
          refine xi_goto (pc' := 64) kc_48_60 rfl ?_
          refine xi_istore_n (pc' := 65) (lv' := [(3, .int 1), (0, .ref 115), (1, .int x1), (2, .int x2)]) kc_48_64 rfl rfl (xm_lt ml_48 rfl) ?_
          refine xi_iload_n (pc' := 66) (x := 1) kc_48_65 rfl rfl ?_
          refine xi_iff (pc' := 69) kc_48_66 rfl rfl ?_
          refine xi_iload_n (pc' := 70) (x := x2) kc_48_69 rfl rfl ?_
          refine xi_goto (pc' := 74) kc_48_70 rfl ?_
          refine xi_istore_n (pc' := 75) (lv' := [(1, .int x2), (3, .int 1), (0, .ref 115), (2, .int x2)]) kc_48_74 rfl rfl (xm_lt ml_48 rfl) ?_
          obtain ⟨v80, ev80⟩ : ∃ q : Int32, x2 + 1 = q := ⟨_, rfl⟩
          have zv80 : v80.toInt = (x2.toInt + 1) := by rw [← ev80]; exact (xz_add (X := x2.toInt) (Y := 1) rfl (by decide) (by omega) (by omega)).trans (by omega)
          refine xi_iinc (pc' := 78) (x := x2) (v := v80) (lv' := [(2, .int v80), (1, .int x2), (3, .int 1), (0, .ref 115)]) kc_48_75 rfl rfl ev80 rfl (xm_lt ml_48 rfl) ?_
          refine xi_goto (pc' := 8) kc_48_78 rfl ?_
          refine xw_lv (b := [(0, .ref 115), (1, .int x2), (2, .int v80)]) (lvS_cons (lvS_cons (lvS_cons (lvS_nil (show ([2, 1, 3, 0] : List Nat).Nodup by decide)) rfl) rfl) rfl) ?_
          exact i0 x2 v80 h (by omega) (by omega) K (by omega)
        · refine xi_iff (pc' := 32) kc_48_29 rfl (xc_lt_f (X := v78.toInt) (Y := 0) rfl (by decide) (by omega)) ?_
          refine xi_aload_n (pc' := 33) (x := 115) kc_48_32 rfl rfl ?_
          refine xi_getfield (pc' := 36) (v := .ref 149) kc_48_33 rfl rfl rfl A14 rfl ?_
          refine xi_iload_n (pc' := 37) (x := x2) kc_48_36 rfl rfl ?_
          refine xi_laload (pc' := 38) (v := v76) kc_48_37 rfl A75 rfl (xi_in (by omega) (by rw [hy75]; omega)) ev76 ?_
          refine xi_aload_n (pc' := 39) (x := 115) kc_48_38 rfl rfl ?_
          refine xi_getfield (pc' := 42) (v := .ref 149) kc_48_39 rfl rfl rfl A14 rfl ?_
          refine xi_iload_n (pc' := 43) (x := x1) kc_48_42 rfl rfl ?_
          refine xi_laload (pc' := 44) (v := v77) kc_48_43 rfl A75 rfl (xi_in (by omega) (by rw [hy75]; omega)) ev77 ?_
          obtain ⟨v81, ev81⟩ : ∃ q : Int32, lg_cmp v76 v77 = q := ⟨_, rfl⟩
          have rv81 := xc_rng v81
          refine xi_lcmp (pc' := 45) (v := v81) kc_48_44 rfl ev81 ?_
          by_cases c82 : v81.toInt = 0
          · refine xi_iff (pc' := 48) kc_48_45 rfl (xc_ne_f (X := v81.toInt) (Y := 0) rfl (by decide) (by omega)) ?_
            refine xi_iload_n (pc' := 49) (x := x2) kc_48_48 rfl rfl ?_
            refine xi_static (mj := 49) (as := [.int x2]) (st1 := []) (lv0 := [(0, .int x2)]) kc_48_49 rfl rfl (Nat.le_of_ble_eq_true rfl) rfl rfl (Nat.le_of_ble_eq_true rfl) (hJ _ _ _ _ (by decide)) (xm_le ml_49 rfl) rfl ?_
            refine mt_49_0 hJ hov1 hov2 (d := d + 5) (x0 := x2) K.1 (fun r83 hh84 K85 => ?_)
            have br83 := xc_rng r83
            have K86 := xk_tr K K85 (xsb_ok _ _ (by decide +kernel))
            obtain ⟨u87, u88, u89, u90, u91, u92, u93, u94, u95, u96, u97, u98, u99, bu87, bu88, bu89, bu90, bu91, bu92, bu93, bu94, bu95, bu96, bu97, bu98, bu99, A100⟩ := xq_115 K86.1
            have e101 : u2 = u88 := xk_eqi (q := 1) K85 (by decide +kernel) A14 A100 rfl rfl
            subst e101
            have e102 : u5 = u91 := xk_eqi (q := 23) K85 (by decide +kernel) A14 A100 rfl rfl
            subst e102
            have e103 : u8 = u94 := xk_eqi (q := 34) K85 (by decide +kernel) A14 A100 rfl rfl
            subst e103
            have e104 : u6 = u92 := xk_eqi (q := 32) K85 (by decide +kernel) A14 A100 rfl rfl
            subst e104
            show xw J ov (d + 7) 48 (52, [(0, .ref 115), (1, .int x1), (2, .int x2)], [.int r83], hh84) _
            refine xi_iload_n (pc' := 53) (x := x1) kc_48_52 rfl rfl ?_
            refine xi_static (mj := 49) (as := [.int x1]) (st1 := [.int r83]) (lv0 := [(0, .int x1)]) kc_48_53 rfl rfl (Nat.le_of_ble_eq_true rfl) rfl rfl (Nat.le_of_ble_eq_true rfl) (hJ _ _ _ _ (by decide)) (xm_le ml_49 rfl) rfl ?_
            refine mt_49_0 hJ hov1 hov2 (d := d + 5) (x0 := x1) K86.1 (fun r105 hh106 K107 => ?_)
            have br105 := xc_rng r105
            have K108 := xk_tr K86 K107 (xsb_ok _ _ (by decide +kernel))
            obtain ⟨u109, u110, u111, u112, u113, u114, u115, u116, u117, u118, u119, u120, u121, bu109, bu110, bu111, bu112, bu113, bu114, bu115, bu116, bu117, bu118, bu119, bu120, bu121, A122⟩ := xq_115 K108.1
            have e123 : u2 = u110 := xk_eqi (q := 1) K107 (by decide +kernel) A100 A122 rfl rfl
            subst e123
            have e124 : u5 = u113 := xk_eqi (q := 23) K107 (by decide +kernel) A100 A122 rfl rfl
            subst e124
            have e125 : u8 = u116 := xk_eqi (q := 34) K107 (by decide +kernel) A100 A122 rfl rfl
            subst e125
            have e126 : u6 = u114 := xk_eqi (q := 32) K107 (by decide +kernel) A100 A122 rfl rfl
            subst e126
            show xw J ov (d + 7) 48 (56, [(0, .ref 115), (1, .int x1), (2, .int x2)], [.int r105, .int r83], hh106) _
            by_cases c127 : r105.toInt ≤ r83.toInt
            · refine xi_cmt (pc' := 63) kc_48_56 rfl (xc_ge_t (X := r83.toInt) (Y := r105.toInt) rfl rfl (by omega)) ?_
              refine xi_iconst (pc' := 64) (v := 0) kc_48_63 rfl rfl ?_
              refine xi_istore_n (pc' := 65) (lv' := [(3, .int 0), (0, .ref 115), (1, .int x1), (2, .int x2)]) kc_48_64 rfl rfl (xm_lt ml_48 rfl) ?_
              refine xi_iload_n (pc' := 66) (x := 0) kc_48_65 rfl rfl ?_
              refine xi_ift (pc' := 73) kc_48_66 rfl rfl ?_
              refine xi_iload_n (pc' := 74) (x := x1) kc_48_73 rfl rfl ?_
              refine xi_istore_n (pc' := 75) (lv' := [(1, .int x1), (3, .int 0), (0, .ref 115), (2, .int x2)]) kc_48_74 rfl rfl (xm_lt ml_48 rfl) ?_
              obtain ⟨v128, ev128⟩ : ∃ q : Int32, x2 + 1 = q := ⟨_, rfl⟩
              have zv128 : v128.toInt = (x2.toInt + 1) := by rw [← ev128]; exact (xz_add (X := x2.toInt) (Y := 1) rfl (by decide) (by omega) (by omega)).trans (by omega)
              refine xi_iinc (pc' := 78) (x := x2) (v := v128) (lv' := [(2, .int v128), (1, .int x1), (3, .int 0), (0, .ref 115)]) kc_48_75 rfl rfl ev128 rfl (xm_lt ml_48 rfl) ?_
              refine xi_goto (pc' := 8) kc_48_78 rfl ?_
              refine xw_lv (b := [(0, .ref 115), (1, .int x1), (2, .int v128)]) (lvS_cons (lvS_cons (lvS_cons (lvS_nil (show ([2, 1, 3, 0] : List Nat).Nodup by decide)) rfl) rfl) rfl) ?_
              exact i0 x1 v128 hh106 (by omega) (by omega) K108 (by omega)
            · refine xi_cmf (pc' := 59) kc_48_56 rfl (xc_ge_f (X := r83.toInt) (Y := r105.toInt) rfl rfl (by omega)) ?_
              refine xi_iconst (pc' := 60) (v := 1) kc_48_59 rfl rfl ?_
              refine xi_goto (pc' := 64) kc_48_60 rfl ?_
              refine xi_istore_n (pc' := 65) (lv' := [(3, .int 1), (0, .ref 115), (1, .int x1), (2, .int x2)]) kc_48_64 rfl rfl (xm_lt ml_48 rfl) ?_
              refine xi_iload_n (pc' := 66) (x := 1) kc_48_65 rfl rfl ?_
              refine xi_iff (pc' := 69) kc_48_66 rfl rfl ?_
              refine xi_iload_n (pc' := 70) (x := x2) kc_48_69 rfl rfl ?_
              refine xi_goto (pc' := 74) kc_48_70 rfl ?_
              refine xi_istore_n (pc' := 75) (lv' := [(1, .int x2), (3, .int 1), (0, .ref 115), (2, .int x2)]) kc_48_74 rfl rfl (xm_lt ml_48 rfl) ?_
              obtain ⟨v129, ev129⟩ : ∃ q : Int32, x2 + 1 = q := ⟨_, rfl⟩
              have zv129 : v129.toInt = (x2.toInt + 1) := by rw [← ev129]; exact (xz_add (X := x2.toInt) (Y := 1) rfl (by decide) (by omega) (by omega)).trans (by omega)
              refine xi_iinc (pc' := 78) (x := x2) (v := v129) (lv' := [(2, .int v129), (1, .int x2), (3, .int 1), (0, .ref 115)]) kc_48_75 rfl rfl ev129 rfl (xm_lt ml_48 rfl) ?_
              refine xi_goto (pc' := 8) kc_48_78 rfl ?_
              refine xw_lv (b := [(0, .ref 115), (1, .int x2), (2, .int v129)]) (lvS_cons (lvS_cons (lvS_cons (lvS_nil (show ([2, 1, 3, 0] : List Nat).Nodup by decide)) rfl) rfl) rfl) ?_
              exact i0 x2 v129 hh106 (by omega) (by omega) K108 (by omega)
          · refine xi_ift (pc' := 63) kc_48_45 rfl (xc_ne_t (X := v81.toInt) (Y := 0) rfl (by decide) (by omega)) ?_
            refine xi_iconst (pc' := 64) (v := 0) kc_48_63 rfl rfl ?_
            refine xi_istore_n (pc' := 65) (lv' := [(3, .int 0), (0, .ref 115), (1, .int x1), (2, .int x2)]) kc_48_64 rfl rfl (xm_lt ml_48 rfl) ?_
            refine xi_iload_n (pc' := 66) (x := 0) kc_48_65 rfl rfl ?_
            refine xi_ift (pc' := 73) kc_48_66 rfl rfl ?_
            refine xi_iload_n (pc' := 74) (x := x1) kc_48_73 rfl rfl ?_
            refine xi_istore_n (pc' := 75) (lv' := [(1, .int x1), (3, .int 0), (0, .ref 115), (2, .int x2)]) kc_48_74 rfl rfl (xm_lt ml_48 rfl) ?_
            obtain ⟨v130, ev130⟩ : ∃ q : Int32, x2 + 1 = q := ⟨_, rfl⟩
            have zv130 : v130.toInt = (x2.toInt + 1) := by rw [← ev130]; exact (xz_add (X := x2.toInt) (Y := 1) rfl (by decide) (by omega) (by omega)).trans (by omega)
            refine xi_iinc (pc' := 78) (x := x2) (v := v130) (lv' := [(2, .int v130), (1, .int x1), (3, .int 0), (0, .ref 115)]) kc_48_75 rfl rfl ev130 rfl (xm_lt ml_48 rfl) ?_
            refine xi_goto (pc' := 8) kc_48_78 rfl ?_
            refine xw_lv (b := [(0, .ref 115), (1, .int x1), (2, .int v130)]) (lvS_cons (lvS_cons (lvS_cons (lvS_nil (show ([2, 1, 3, 0] : List Nat).Nodup by decide)) rfl) rfl) rfl) ?_
            exact i0 x1 v130 h (by omega) (by omega) K (by omega)
set_option maxHeartbeats 4000000 in
theorem mt_48_0 {J : xe_J} {ov : List (List Int32)} (hJ : ∀ d mj as h, mj ≠ xe_loff → J d mj as h = none) (hov1 : ov[1]? = some [10, 0, 0, 0, 0, 0]) (hov2 : ov[2]? = some [99, 30, 50, 50, 1, 99999]) {d : Nat} {Q : Option Value → xe_H → Prop} {h : xe_H} (T : xt h) (kk : (∀ (r : Int32) (h' : xe_H), (0 ≤ r.toInt ∧ r.toInt ≤ 63) → xk xP_17 h h' → Q (some (.int r)) h')) : xw J ov (d + 7) 48 (0, [(0, .ref 115)], [], h) Q := by
  have K : xk xP_17 h h := xk_re T
  refine xi_aload_n (pc' := 1) (x := 115) kc_48_0 rfl rfl ?_
  obtain ⟨u1, u2, u3, u4, u5, u6, u7, u8, u9, u10, u11, u12, u13, bu1, bu2, bu3, bu4, bu5, bu6, bu7, bu8, bu9, bu10, bu11, bu12, bu13, A14⟩ := xq_115 K.1
  refine xi_virtual (mj := 43) (as := []) (st1 := []) (lv0 := [(0, .ref 115)]) kc_48_1 rfl rfl rfl rfl rfl A14 (Nat.le_of_ble_eq_true rfl) (hJ _ _ _ _ (by decide)) (xm_le ml_43 rfl) rfl ?_
  refine mt_43_0 hJ hov1 hov2 (d := d)  K.1 (fun hh16 K17 => ?_)
  have K18 := xk_tr K K17 (xsb_ok _ _ (by decide +kernel))
  obtain ⟨u19, u20, u21, u22, u23, u24, u25, u26, u27, u28, u29, u30, u31, bu19, bu20, bu21, bu22, bu23, bu24, bu25, bu26, bu27, bu28, bu29, bu30, bu31, A32⟩ := xq_115 K18.1
  have e33 : u2 = u20 := xk_eqi (q := 1) K17 (by decide +kernel) A14 A32 rfl rfl
  subst e33
  have e34 : u5 = u23 := xk_eqi (q := 23) K17 (by decide +kernel) A14 A32 rfl rfl
  subst e34
  have e35 : u8 = u26 := xk_eqi (q := 34) K17 (by decide +kernel) A14 A32 rfl rfl
  subst e35
  show xw J ov (d + 7) 48 (4, [(0, .ref 115)], [], hh16) _
  refine xi_iconst (pc' := 5) (v := 0) kc_48_4 rfl rfl ?_
  refine xi_istore_n (pc' := 6) (lv' := [(1, .int 0), (0, .ref 115)]) kc_48_5 rfl rfl (xm_lt ml_48 rfl) ?_
  refine xi_iconst (pc' := 7) (v := 1) kc_48_6 rfl rfl ?_
  refine xi_istore_n (pc' := 8) (lv' := [(2, .int 1), (1, .int 0), (0, .ref 115)]) kc_48_7 rfl rfl (xm_lt ml_48 rfl) ?_
  have zc0 : (0 : Int32).toInt = 0 := by decide
  have zc1 : (1 : Int32).toInt = 1 := by decide
  refine xw_lv (b := [(0, .ref 115), (1, .int 0), (2, .int 1)]) (lvS_cons (lvS_cons (lvS_cons (lvS_nil (show ([2, 1, 0] : List Nat).Nodup by decide)) rfl) rfl) rfl) ?_
  exact (lp_48_0 hJ hov1 hov2 (d := d) (hb := hh16) (fun r9 h9 b9 K9 => kk r9 h9 b9 (xk_tr K18 K9 (xsb_ok _ _ (by decide +kernel)))) 64) 0 1 hh16 (by omega) (by omega) (xk_re K18.1) (by omega)
set_option maxHeartbeats 4000000 in
theorem mt_47_0 {J : xe_J} {ov : List (List Int32)} (hJ : ∀ d mj as h, mj ≠ xe_loff → J d mj as h = none) (hov1 : ov[1]? = some [10, 0, 0, 0, 0, 0]) (hov2 : ov[2]? = some [99, 30, 50, 50, 1, 99999]) {d : Nat} {Q : Option Value → xe_H → Prop} {h : xe_H} (T : xt h) (kk : (∀ (r : Int32) (h' : xe_H), (0 ≤ r.toInt ∧ r.toInt ≤ 63) → xk xP_17 h h' → Q (some (.int r)) h')) : xw J ov (d + 8) 47 (0, [(0, .ref 115)], [], h) Q := by
  have K : xk xP_17 h h := xk_re T
  refine xi_aload_n (pc' := 1) (x := 115) kc_47_0 rfl rfl ?_
  refine xi_iconst (pc' := 2) (v := 0) kc_47_1 rfl rfl ?_
  obtain ⟨u1, u2, u3, u4, u5, u6, u7, u8, u9, u10, u11, u12, u13, bu1, bu2, bu3, bu4, bu5, bu6, bu7, bu8, bu9, bu10, bu11, bu12, bu13, A14⟩ := xq_115 K.1
  refine xi_putfield (pc' := 5) (fs' := [.int 0, .int u2, .ref 116, .ref 117, .ref 118, .ref 119, .ref 120, .ref 121, .ref 122, .ref 123, .ref 124, .ref 125, .ref 126, .ref 127, .ref 128, .ref 129, .int u3, .ref 130, .int u4, .ref 131, .ref 132, .ref 133, .ref 134, .int u5, .ref 135, .ref 136, .ref 137, .ref 138, .ref 139, .ref 140, .ref 141, .ref 142, .int u6, .int u7, .int u8, .ref 143, .ref 144, .ref 145, .ref 146, .ref 147, .ref 148, .int u9, .ref 149, .ref 150, .ref 151, .int u10, .ref 152, .ref 153, .ref 154, .ref 155, .ref 156, .ref 157, .ref 158, .ref 159, .int u11, .ref 160, .int u12, .ref 161, .ref 162, .ref 163, .ref 164, .int u13, .ref 165, .ref 166]) kc_47_2 rfl rfl rfl A14 rfl rfl rfl (Nat.le_of_ble_eq_true rfl) rfl (fun hh16 eh15 => ?_)
  have K17 := xk_pf (k := 0) (v := 0) K (xk_wf (by decide +kernel)) xD_115 A14 rfl (by first | omega | decide) (by first | omega | decide) eh15 rfl
  refine xi_aload_n (pc' := 6) (x := 115) kc_47_5 rfl rfl ?_
  refine xi_virtual (mj := 48) (as := []) (st1 := []) (lv0 := [(0, .ref 115)]) kc_47_6 rfl rfl rfl rfl rfl eh15.1 (Nat.le_of_ble_eq_true rfl) (hJ _ _ _ _ (by decide)) (xm_le ml_48 rfl) rfl ?_
  refine mt_48_0 hJ hov1 hov2 (d := d)  K17.1 (fun r18 hh19 br18 K20 => ?_)
  have K21 := xk_tr K17 K20 (xsb_ok _ _ (by decide +kernel))
  obtain ⟨u22, u23, u24, u25, u26, u27, u28, u29, u30, u31, u32, u33, u34, bu22, bu23, bu24, bu25, bu26, bu27, bu28, bu29, bu30, bu31, bu32, bu33, bu34, A35⟩ := xq_115 K21.1
  have e36 : u2 = u23 := xk_eqi (q := 1) K20 (by decide +kernel) eh15.1 A35 rfl rfl
  subst e36
  have e37 : u5 = u26 := xk_eqi (q := 23) K20 (by decide +kernel) eh15.1 A35 rfl rfl
  subst e37
  have e38 : u8 = u29 := xk_eqi (q := 34) K20 (by decide +kernel) eh15.1 A35 rfl rfl
  subst e38
  show xw J ov (d + 8) 47 (9, [(0, .ref 115)], [.int r18], hh19) _
  refine xi_ireturn kc_47_9 mr_47 rfl ?_
  exact kk r18 hh19 (by omega) K21
set_option maxHeartbeats 4000000 in
theorem lp_50_0 {J : xe_J} {ov : List (List Int32)} (hJ : ∀ d mj as h, mj ≠ xe_loff → J d mj as h = none) (hov1 : ov[1]? = some [10, 0, 0, 0, 0, 0]) (hov2 : ov[2]? = some [99, 30, 50, 50, 1, 99999]) {d : Nat} {Q : Option Value → xe_H → Prop} {hb : xe_H} (kk : (∀ (r : Int32) (h' : xe_H), xk xP_0 hb h' → Q (some (.int r)) h')) : ∀ m : Nat, (∀ (x1 : Int32) (x2 : Int32) (x3 : Int32) (x4 : Int32) (h : xe_H), (0 ≤ x1.toInt ∧ x1.toInt ≤ 1) → (0 ≤ x4.toInt ∧ x4.toInt ≤ 64) → xk xP_0 hb h → (-1) * x4.toInt + 64 < (m : Int) → xw J ov (d + 7) 50 (33, [(0, .ref 115), (1, .int x1), (2, .int x2), (3, .int x3), (4, .int x4)], [], h) Q) := by
  intro m
  induction m with
  | zero =>
    intro x1 x2 x3 x4 h b1 b4 K hm; have rx2 := xc_rng x2; have rx3 := xc_rng x3; exfalso; omega
  | succ m ih =>
    have i0 := ih
    intro x1 x2 x3 x4 h b1 b4 K hm
    have rx2 := xc_rng x2
    have rx3 := xc_rng x3
    refine xi_iload (pc' := 35) (x := x4) kc_50_33 rfl rfl ?_
    refine xi_aload_n (pc' := 36) (x := 115) kc_50_35 rfl rfl ?_
    obtain ⟨u1, u2, u3, u4, u5, u6, u7, u8, u9, u10, u11, u12, u13, bu1, bu2, bu3, bu4, bu5, bu6, bu7, bu8, bu9, bu10, bu11, bu12, bu13, A14⟩ := xq_115 K.1
    refine xi_virtual (mj := 42) (as := []) (st1 := [.int x4]) (lv0 := [(0, .ref 115)]) kc_50_36 rfl rfl rfl rfl rfl A14 (Nat.le_of_ble_eq_true rfl) (hJ _ _ _ _ (by decide)) (xm_le ml_42 rfl) rfl ?_
    refine xi_iconst (pc' := 1) (v := 1) kc_42_0 rfl rfl ?_
    refine xi_aload_n (pc' := 2) (x := 115) kc_42_1 rfl rfl ?_
    refine xi_getfield (pc' := 5) (v := .int u5) kc_42_2 rfl rfl rfl A14 rfl ?_
    refine xi_bipush (pc' := 7) (v := 6) kc_42_5 rfl rfl ?_
    by_cases c15 : 6 ≤ u5.toInt
    · refine xi_cmt (pc' := 17) kc_42_7 rfl (xc_ge_t (X := u5.toInt) (Y := 6) rfl (by decide) (by omega)) ?_
      refine xi_bipush (pc' := 19) (v := 6) kc_42_17 rfl rfl ?_
      refine xi_ishl (pc' := 20) (v := 64) kc_42_19 rfl rfl ?_
      refine xi_ireturn kc_42_20 mr_42 rfl ?_
      show xw J ov (d + 7) 50 (39, [(0, .ref 115), (1, .int x1), (2, .int x2), (3, .int x3), (4, .int x4)], [.int 64, .int x4], h) _
      by_cases c16 : 64 ≤ x4.toInt
      · refine xi_cmt (pc' := 109) kc_50_39 rfl (xc_ge_t (X := x4.toInt) (Y := 64) rfl (by decide) (by omega)) ?_
        refine xi_iload_n (pc' := 110) (x := x2) kc_50_109 rfl rfl ?_
        by_cases c17 : x2.toInt = 0
        · refine xi_iff (pc' := 113) kc_50_110 rfl (xc_ne_f (X := x2.toInt) (Y := 0) rfl (by decide) (by omega)) ?_
          refine xi_bipush (pc' := 115) (v := (-9)) kc_50_113 rfl rfl ?_
          refine xi_goto (pc' := 127) kc_50_115 rfl ?_
          refine xi_ireturn kc_50_127 mr_50 rfl ?_
          have zcm9 : ((-9) : Int32).toInt = (-9) := by decide
          exact kk (-9) h K
        · refine xi_ift (pc' := 118) kc_50_110 rfl (xc_ne_t (X := x2.toInt) (Y := 0) rfl (by decide) (by omega)) ?_
          refine xi_iload_n (pc' := 119) (x := x1) kc_50_118 rfl rfl ?_
          by_cases c18 : x1.toInt = 0
          · refine xi_iff (pc' := 122) kc_50_119 rfl (xc_ne_f (X := x1.toInt) (Y := 0) rfl (by decide) (by omega)) ?_
            refine xi_iload_n (pc' := 123) (x := x2) kc_50_122 rfl rfl ?_
            refine xi_goto (pc' := 127) kc_50_123 rfl ?_
            refine xi_ireturn kc_50_127 mr_50 rfl ?_
            exact kk x2 h K
          · refine xi_ift (pc' := 126) kc_50_119 rfl (xc_ne_t (X := x1.toInt) (Y := 0) rfl (by decide) (by omega)) ?_
            refine xi_iload_n (pc' := 127) (x := x3) kc_50_126 rfl rfl ?_
            refine xi_ireturn kc_50_127 mr_50 rfl ?_
            exact kk x3 h K
      · refine xi_cmf (pc' := 42) kc_50_39 rfl (xc_ge_f (X := x4.toInt) (Y := 64) rfl (by decide) (by omega)) ?_
        refine xi_aload_n (pc' := 43) (x := 115) kc_50_42 rfl rfl ?_
        refine xi_getfield (pc' := 46) (v := .ref 149) kc_50_43 rfl rfl rfl A14 rfl ?_
        refine xi_iload (pc' := 48) (x := x4) kc_50_46 rfl rfl ?_
        obtain ⟨y19, A19, hy19⟩ := xk_larr K.1 xD_149
        obtain ⟨v20, ev20⟩ : ∃ q : Int64, y19.getD (Int32.toNatClampNeg x4) 0 = q := ⟨_, rfl⟩
        refine xi_laload (pc' := 49) (v := v20) kc_50_48 rfl A19 rfl (xi_in (by omega) (by rw [hy19]; omega)) ev20 ?_
        refine xi_lconst (pc' := 50) (v := 0) kc_50_49 rfl rfl ?_
        obtain ⟨v21, ev21⟩ : ∃ q : Int32, lg_cmp v20 0 = q := ⟨_, rfl⟩
        have rv21 := xc_rng v21
        refine xi_lcmp (pc' := 51) (v := v21) kc_50_50 rfl ev21 ?_
        by_cases c22 : v21.toInt = 0
        · refine xi_iff (pc' := 54) kc_50_51 rfl (xc_ne_f (X := v21.toInt) (Y := 0) rfl (by decide) (by omega)) ?_
          refine xi_iload (pc' := 56) (x := x4) kc_50_54 rfl rfl ?_
          refine xi_static (mj := 49) (as := [.int x4]) (st1 := []) (lv0 := [(0, .int x4)]) kc_50_56 rfl rfl (Nat.le_of_ble_eq_true rfl) rfl rfl (Nat.le_of_ble_eq_true rfl) (hJ _ _ _ _ (by decide)) (xm_le ml_49 rfl) rfl ?_
          refine mt_49_0 hJ hov1 hov2 (d := d + 5) (x0 := x4) K.1 (fun r23 hh24 K25 => ?_)
          have br23 := xc_rng r23
          have K26 := xk_tr K K25 (xsb_ok _ _ (by decide +kernel))
          obtain ⟨u27, u28, u29, u30, u31, u32, u33, u34, u35, u36, u37, u38, u39, bu27, bu28, bu29, bu30, bu31, bu32, bu33, bu34, bu35, bu36, bu37, bu38, bu39, A40⟩ := xq_115 K26.1
          have e41 : u2 = u28 := xk_eqi (q := 1) K25 (by decide +kernel) A14 A40 rfl rfl
          subst e41
          have e42 : u5 = u31 := xk_eqi (q := 23) K25 (by decide +kernel) A14 A40 rfl rfl
          subst e42
          have e43 : u8 = u34 := xk_eqi (q := 34) K25 (by decide +kernel) A14 A40 rfl rfl
          subst e43
          have e44 : u6 = u32 := xk_eqi (q := 32) K25 (by decide +kernel) A14 A40 rfl rfl
          subst e44
          show xw J ov (d + 7) 50 (59, [(0, .ref 115), (1, .int x1), (2, .int x2), (3, .int x3), (4, .int x4)], [.int r23], hh24) _
          refine xi_iload_n (pc' := 60) (x := x3) kc_50_59 rfl rfl ?_
          by_cases c45 : x3.toInt ≤ r23.toInt
          · refine xi_cmt (pc' := 67) kc_50_60 rfl (xc_ge_t (X := r23.toInt) (Y := x3.toInt) rfl rfl (by omega)) ?_
            refine xi_iload (pc' := 69) (x := x4) kc_50_67 rfl rfl ?_
            refine xi_static (mj := 49) (as := [.int x4]) (st1 := []) (lv0 := [(0, .int x4)]) kc_50_69 rfl rfl (Nat.le_of_ble_eq_true rfl) rfl rfl (Nat.le_of_ble_eq_true rfl) (hJ _ _ _ _ (by decide)) (xm_le ml_49 rfl) rfl ?_
            refine mt_49_0 hJ hov1 hov2 (d := d + 5) (x0 := x4) K26.1 (fun r46 hh47 K48 => ?_)
            have br46 := xc_rng r46
            have K49 := xk_tr K26 K48 (xsb_ok _ _ (by decide +kernel))
            obtain ⟨u50, u51, u52, u53, u54, u55, u56, u57, u58, u59, u60, u61, u62, bu50, bu51, bu52, bu53, bu54, bu55, bu56, bu57, bu58, bu59, bu60, bu61, bu62, A63⟩ := xq_115 K49.1
            have e64 : u2 = u51 := xk_eqi (q := 1) K48 (by decide +kernel) A40 A63 rfl rfl
            subst e64
            have e65 : u5 = u54 := xk_eqi (q := 23) K48 (by decide +kernel) A40 A63 rfl rfl
            subst e65
            have e66 : u8 = u57 := xk_eqi (q := 34) K48 (by decide +kernel) A40 A63 rfl rfl
            subst e66
            have e67 : u6 = u55 := xk_eqi (q := 32) K48 (by decide +kernel) A40 A63 rfl rfl
            subst e67
            show xw J ov (d + 7) 50 (72, [(0, .ref 115), (1, .int x1), (2, .int x2), (3, .int x3), (4, .int x4)], [.int r46], hh47) _
            refine xi_iload_n (pc' := 73) (x := x3) kc_50_72 rfl rfl ?_
            by_cases c68 : r46.toInt = x3.toInt
            · refine xi_cmf (pc' := 76) kc_50_73 rfl (xc_ne_f (X := r46.toInt) (Y := x3.toInt) rfl rfl (by omega)) ?_
              refine xi_iload_n (pc' := 77) (x := x2) kc_50_76 rfl rfl ?_
              refine xi_iconst (pc' := 78) (v := 1) kc_50_77 rfl rfl ?_
              obtain ⟨v69, ev69⟩ : ∃ q : Int32, (x2 : Int32) + 1 = q := ⟨_, rfl⟩
              have rv69 := xc_rng v69
              refine xi_iadd (pc' := 79) (v := v69) kc_50_78 rfl ev69 ?_
              refine xi_goto (pc' := 83) kc_50_79 rfl ?_
              refine xi_istore_n (pc' := 84) (lv' := [(2, .int v69), (0, .ref 115), (1, .int x1), (3, .int x3), (4, .int x4)]) kc_50_83 rfl rfl (xm_lt ml_50 rfl) ?_
              refine xi_iload (pc' := 86) (x := x4) kc_50_84 rfl rfl ?_
              refine xi_static (mj := 49) (as := [.int x4]) (st1 := []) (lv0 := [(0, .int x4)]) kc_50_86 rfl rfl (Nat.le_of_ble_eq_true rfl) rfl rfl (Nat.le_of_ble_eq_true rfl) (hJ _ _ _ _ (by decide)) (xm_le ml_49 rfl) rfl ?_
              refine mt_49_0 hJ hov1 hov2 (d := d + 5) (x0 := x4) K49.1 (fun r70 hh71 K72 => ?_)
              have br70 := xc_rng r70
              have K73 := xk_tr K49 K72 (xsb_ok _ _ (by decide +kernel))
              obtain ⟨u74, u75, u76, u77, u78, u79, u80, u81, u82, u83, u84, u85, u86, bu74, bu75, bu76, bu77, bu78, bu79, bu80, bu81, bu82, bu83, bu84, bu85, bu86, A87⟩ := xq_115 K73.1
              have e88 : u2 = u75 := xk_eqi (q := 1) K72 (by decide +kernel) A63 A87 rfl rfl
              subst e88
              have e89 : u5 = u78 := xk_eqi (q := 23) K72 (by decide +kernel) A63 A87 rfl rfl
              subst e89
              have e90 : u8 = u81 := xk_eqi (q := 34) K72 (by decide +kernel) A63 A87 rfl rfl
              subst e90
              have e91 : u6 = u79 := xk_eqi (q := 32) K72 (by decide +kernel) A63 A87 rfl rfl
              subst e91
              show xw J ov (d + 7) 50 (89, [(2, .int v69), (0, .ref 115), (1, .int x1), (3, .int x3), (4, .int x4)], [.int r70], hh71) _
              refine xi_iload_n (pc' := 90) (x := x3) kc_50_89 rfl rfl ?_
              by_cases c92 : x3.toInt ≤ r70.toInt
              · refine xi_cmt (pc' := 101) kc_50_90 rfl (xc_ge_t (X := r70.toInt) (Y := x3.toInt) rfl rfl (by omega)) ?_
                refine xi_iload_n (pc' := 102) (x := x3) kc_50_101 rfl rfl ?_
                refine xi_istore_n (pc' := 103) (lv' := [(3, .int x3), (2, .int v69), (0, .ref 115), (1, .int x1), (4, .int x4)]) kc_50_102 rfl rfl (xm_lt ml_50 rfl) ?_
                obtain ⟨v93, ev93⟩ : ∃ q : Int32, x4 + 1 = q := ⟨_, rfl⟩
                have zv93 : v93.toInt = (x4.toInt + 1) := by rw [← ev93]; exact (xz_add (X := x4.toInt) (Y := 1) rfl (by decide) (by omega) (by omega)).trans (by omega)
                refine xi_iinc (pc' := 106) (x := x4) (v := v93) (lv' := [(4, .int v93), (3, .int x3), (2, .int v69), (0, .ref 115), (1, .int x1)]) kc_50_103 rfl rfl ev93 rfl (xm_lt ml_50 rfl) ?_
                refine xi_goto (pc' := 33) kc_50_106 rfl ?_
                refine xw_lv (b := [(0, .ref 115), (1, .int x1), (2, .int v69), (3, .int x3), (4, .int v93)]) (lvS_cons (lvS_cons (lvS_cons (lvS_cons (lvS_cons (lvS_nil (show ([4, 3, 2, 0, 1] : List Nat).Nodup by decide)) rfl) rfl) rfl) rfl) rfl) ?_
                exact i0 x1 v69 x3 v93 hh71 (by omega) (by omega) K73 (by omega)
              · refine xi_cmf (pc' := 93) kc_50_90 rfl (xc_ge_f (X := r70.toInt) (Y := x3.toInt) rfl rfl (by omega)) ?_
                refine xi_iload (pc' := 95) (x := x4) kc_50_93 rfl rfl ?_
                refine xi_static (mj := 49) (as := [.int x4]) (st1 := []) (lv0 := [(0, .int x4)]) kc_50_95 rfl rfl (Nat.le_of_ble_eq_true rfl) rfl rfl (Nat.le_of_ble_eq_true rfl) (hJ _ _ _ _ (by decide)) (xm_le ml_49 rfl) rfl ?_
                refine mt_49_0 hJ hov1 hov2 (d := d + 5) (x0 := x4) K73.1 (fun r94 hh95 K96 => ?_)
                have br94 := xc_rng r94
                have K97 := xk_tr K73 K96 (xsb_ok _ _ (by decide +kernel))
                obtain ⟨u98, u99, u100, u101, u102, u103, u104, u105, u106, u107, u108, u109, u110, bu98, bu99, bu100, bu101, bu102, bu103, bu104, bu105, bu106, bu107, bu108, bu109, bu110, A111⟩ := xq_115 K97.1
                have e112 : u2 = u99 := xk_eqi (q := 1) K96 (by decide +kernel) A87 A111 rfl rfl
                subst e112
                have e113 : u5 = u102 := xk_eqi (q := 23) K96 (by decide +kernel) A87 A111 rfl rfl
                subst e113
                have e114 : u8 = u105 := xk_eqi (q := 34) K96 (by decide +kernel) A87 A111 rfl rfl
                subst e114
                have e115 : u6 = u103 := xk_eqi (q := 32) K96 (by decide +kernel) A87 A111 rfl rfl
                subst e115
                show xw J ov (d + 7) 50 (98, [(2, .int v69), (0, .ref 115), (1, .int x1), (3, .int x3), (4, .int x4)], [.int r94], hh95) _
                refine xi_goto (pc' := 102) kc_50_98 rfl ?_
                refine xi_istore_n (pc' := 103) (lv' := [(3, .int r94), (2, .int v69), (0, .ref 115), (1, .int x1), (4, .int x4)]) kc_50_102 rfl rfl (xm_lt ml_50 rfl) ?_
                obtain ⟨v116, ev116⟩ : ∃ q : Int32, x4 + 1 = q := ⟨_, rfl⟩
                have zv116 : v116.toInt = (x4.toInt + 1) := by rw [← ev116]; exact (xz_add (X := x4.toInt) (Y := 1) rfl (by decide) (by omega) (by omega)).trans (by omega)
                refine xi_iinc (pc' := 106) (x := x4) (v := v116) (lv' := [(4, .int v116), (3, .int r94), (2, .int v69), (0, .ref 115), (1, .int x1)]) kc_50_103 rfl rfl ev116 rfl (xm_lt ml_50 rfl) ?_
                refine xi_goto (pc' := 33) kc_50_106 rfl ?_
                refine xw_lv (b := [(0, .ref 115), (1, .int x1), (2, .int v69), (3, .int r94), (4, .int v116)]) (lvS_cons (lvS_cons (lvS_cons (lvS_cons (lvS_cons (lvS_nil (show ([4, 3, 2, 0, 1] : List Nat).Nodup by decide)) rfl) rfl) rfl) rfl) rfl) ?_
                exact i0 x1 v69 r94 v116 hh95 (by omega) (by omega) K97 (by omega)
            · refine xi_cmt (pc' := 82) kc_50_73 rfl (xc_ne_t (X := r46.toInt) (Y := x3.toInt) rfl rfl (by omega)) ?_
              refine xi_iload_n (pc' := 83) (x := x2) kc_50_82 rfl rfl ?_
              refine xi_istore_n (pc' := 84) (lv' := [(2, .int x2), (0, .ref 115), (1, .int x1), (3, .int x3), (4, .int x4)]) kc_50_83 rfl rfl (xm_lt ml_50 rfl) ?_
              refine xi_iload (pc' := 86) (x := x4) kc_50_84 rfl rfl ?_
              refine xi_static (mj := 49) (as := [.int x4]) (st1 := []) (lv0 := [(0, .int x4)]) kc_50_86 rfl rfl (Nat.le_of_ble_eq_true rfl) rfl rfl (Nat.le_of_ble_eq_true rfl) (hJ _ _ _ _ (by decide)) (xm_le ml_49 rfl) rfl ?_
              refine mt_49_0 hJ hov1 hov2 (d := d + 5) (x0 := x4) K49.1 (fun r117 hh118 K119 => ?_)
              have br117 := xc_rng r117
              have K120 := xk_tr K49 K119 (xsb_ok _ _ (by decide +kernel))
              obtain ⟨u121, u122, u123, u124, u125, u126, u127, u128, u129, u130, u131, u132, u133, bu121, bu122, bu123, bu124, bu125, bu126, bu127, bu128, bu129, bu130, bu131, bu132, bu133, A134⟩ := xq_115 K120.1
              have e135 : u2 = u122 := xk_eqi (q := 1) K119 (by decide +kernel) A63 A134 rfl rfl
              subst e135
              have e136 : u5 = u125 := xk_eqi (q := 23) K119 (by decide +kernel) A63 A134 rfl rfl
              subst e136
              have e137 : u8 = u128 := xk_eqi (q := 34) K119 (by decide +kernel) A63 A134 rfl rfl
              subst e137
              have e138 : u6 = u126 := xk_eqi (q := 32) K119 (by decide +kernel) A63 A134 rfl rfl
              subst e138
              show xw J ov (d + 7) 50 (89, [(2, .int x2), (0, .ref 115), (1, .int x1), (3, .int x3), (4, .int x4)], [.int r117], hh118) _
              refine xi_iload_n (pc' := 90) (x := x3) kc_50_89 rfl rfl ?_
              by_cases c139 : x3.toInt ≤ r117.toInt
              · refine xi_cmt (pc' := 101) kc_50_90 rfl (xc_ge_t (X := r117.toInt) (Y := x3.toInt) rfl rfl (by omega)) ?_
                refine xi_iload_n (pc' := 102) (x := x3) kc_50_101 rfl rfl ?_
                refine xi_istore_n (pc' := 103) (lv' := [(3, .int x3), (2, .int x2), (0, .ref 115), (1, .int x1), (4, .int x4)]) kc_50_102 rfl rfl (xm_lt ml_50 rfl) ?_
                obtain ⟨v140, ev140⟩ : ∃ q : Int32, x4 + 1 = q := ⟨_, rfl⟩
                have zv140 : v140.toInt = (x4.toInt + 1) := by rw [← ev140]; exact (xz_add (X := x4.toInt) (Y := 1) rfl (by decide) (by omega) (by omega)).trans (by omega)
                refine xi_iinc (pc' := 106) (x := x4) (v := v140) (lv' := [(4, .int v140), (3, .int x3), (2, .int x2), (0, .ref 115), (1, .int x1)]) kc_50_103 rfl rfl ev140 rfl (xm_lt ml_50 rfl) ?_
                refine xi_goto (pc' := 33) kc_50_106 rfl ?_
                refine xw_lv (b := [(0, .ref 115), (1, .int x1), (2, .int x2), (3, .int x3), (4, .int v140)]) (lvS_cons (lvS_cons (lvS_cons (lvS_cons (lvS_cons (lvS_nil (show ([4, 3, 2, 0, 1] : List Nat).Nodup by decide)) rfl) rfl) rfl) rfl) rfl) ?_
                exact i0 x1 x2 x3 v140 hh118 (by omega) (by omega) K120 (by omega)
              · refine xi_cmf (pc' := 93) kc_50_90 rfl (xc_ge_f (X := r117.toInt) (Y := x3.toInt) rfl rfl (by omega)) ?_
                refine xi_iload (pc' := 95) (x := x4) kc_50_93 rfl rfl ?_
                refine xi_static (mj := 49) (as := [.int x4]) (st1 := []) (lv0 := [(0, .int x4)]) kc_50_95 rfl rfl (Nat.le_of_ble_eq_true rfl) rfl rfl (Nat.le_of_ble_eq_true rfl) (hJ _ _ _ _ (by decide)) (xm_le ml_49 rfl) rfl ?_
                refine mt_49_0 hJ hov1 hov2 (d := d + 5) (x0 := x4) K120.1 (fun r141 hh142 K143 => ?_)
                have br141 := xc_rng r141
                have K144 := xk_tr K120 K143 (xsb_ok _ _ (by decide +kernel))
                obtain ⟨u145, u146, u147, u148, u149, u150, u151, u152, u153, u154, u155, u156, u157, bu145, bu146, bu147, bu148, bu149, bu150, bu151, bu152, bu153, bu154, bu155, bu156, bu157, A158⟩ := xq_115 K144.1
                have e159 : u2 = u146 := xk_eqi (q := 1) K143 (by decide +kernel) A134 A158 rfl rfl
                subst e159
                have e160 : u5 = u149 := xk_eqi (q := 23) K143 (by decide +kernel) A134 A158 rfl rfl
                subst e160
                have e161 : u8 = u152 := xk_eqi (q := 34) K143 (by decide +kernel) A134 A158 rfl rfl
                subst e161
                have e162 : u6 = u150 := xk_eqi (q := 32) K143 (by decide +kernel) A134 A158 rfl rfl
                subst e162
                show xw J ov (d + 7) 50 (98, [(2, .int x2), (0, .ref 115), (1, .int x1), (3, .int x3), (4, .int x4)], [.int r141], hh142) _
                refine xi_goto (pc' := 102) kc_50_98 rfl ?_
                refine xi_istore_n (pc' := 103) (lv' := [(3, .int r141), (2, .int x2), (0, .ref 115), (1, .int x1), (4, .int x4)]) kc_50_102 rfl rfl (xm_lt ml_50 rfl) ?_
                obtain ⟨v163, ev163⟩ : ∃ q : Int32, x4 + 1 = q := ⟨_, rfl⟩
                have zv163 : v163.toInt = (x4.toInt + 1) := by rw [← ev163]; exact (xz_add (X := x4.toInt) (Y := 1) rfl (by decide) (by omega) (by omega)).trans (by omega)
                refine xi_iinc (pc' := 106) (x := x4) (v := v163) (lv' := [(4, .int v163), (3, .int r141), (2, .int x2), (0, .ref 115), (1, .int x1)]) kc_50_103 rfl rfl ev163 rfl (xm_lt ml_50 rfl) ?_
                refine xi_goto (pc' := 33) kc_50_106 rfl ?_
                refine xw_lv (b := [(0, .ref 115), (1, .int x1), (2, .int x2), (3, .int r141), (4, .int v163)]) (lvS_cons (lvS_cons (lvS_cons (lvS_cons (lvS_cons (lvS_nil (show ([4, 3, 2, 0, 1] : List Nat).Nodup by decide)) rfl) rfl) rfl) rfl) rfl) ?_
                exact i0 x1 x2 r141 v163 hh142 (by omega) (by omega) K144 (by omega)
          · refine xi_cmf (pc' := 63) kc_50_60 rfl (xc_ge_f (X := r23.toInt) (Y := x3.toInt) rfl rfl (by omega)) ?_
            refine xi_iconst (pc' := 64) (v := 1) kc_50_63 rfl rfl ?_
            refine xi_goto (pc' := 83) kc_50_64 rfl ?_
            refine xi_istore_n (pc' := 84) (lv' := [(2, .int 1), (0, .ref 115), (1, .int x1), (3, .int x3), (4, .int x4)]) kc_50_83 rfl rfl (xm_lt ml_50 rfl) ?_
            refine xi_iload (pc' := 86) (x := x4) kc_50_84 rfl rfl ?_
            refine xi_static (mj := 49) (as := [.int x4]) (st1 := []) (lv0 := [(0, .int x4)]) kc_50_86 rfl rfl (Nat.le_of_ble_eq_true rfl) rfl rfl (Nat.le_of_ble_eq_true rfl) (hJ _ _ _ _ (by decide)) (xm_le ml_49 rfl) rfl ?_
            refine mt_49_0 hJ hov1 hov2 (d := d + 5) (x0 := x4) K26.1 (fun r164 hh165 K166 => ?_)
            have br164 := xc_rng r164
            have K167 := xk_tr K26 K166 (xsb_ok _ _ (by decide +kernel))
            obtain ⟨u168, u169, u170, u171, u172, u173, u174, u175, u176, u177, u178, u179, u180, bu168, bu169, bu170, bu171, bu172, bu173, bu174, bu175, bu176, bu177, bu178, bu179, bu180, A181⟩ := xq_115 K167.1
            have e182 : u2 = u169 := xk_eqi (q := 1) K166 (by decide +kernel) A40 A181 rfl rfl
            subst e182
            have e183 : u5 = u172 := xk_eqi (q := 23) K166 (by decide +kernel) A40 A181 rfl rfl
            subst e183
            have e184 : u8 = u175 := xk_eqi (q := 34) K166 (by decide +kernel) A40 A181 rfl rfl
            subst e184
            have e185 : u6 = u173 := xk_eqi (q := 32) K166 (by decide +kernel) A40 A181 rfl rfl
            subst e185
            show xw J ov (d + 7) 50 (89, [(2, .int 1), (0, .ref 115), (1, .int x1), (3, .int x3), (4, .int x4)], [.int r164], hh165) _
            refine xi_iload_n (pc' := 90) (x := x3) kc_50_89 rfl rfl ?_
            by_cases c186 : x3.toInt ≤ r164.toInt
            · refine xi_cmt (pc' := 101) kc_50_90 rfl (xc_ge_t (X := r164.toInt) (Y := x3.toInt) rfl rfl (by omega)) ?_
              refine xi_iload_n (pc' := 102) (x := x3) kc_50_101 rfl rfl ?_
              refine xi_istore_n (pc' := 103) (lv' := [(3, .int x3), (2, .int 1), (0, .ref 115), (1, .int x1), (4, .int x4)]) kc_50_102 rfl rfl (xm_lt ml_50 rfl) ?_
              obtain ⟨v187, ev187⟩ : ∃ q : Int32, x4 + 1 = q := ⟨_, rfl⟩
              have zv187 : v187.toInt = (x4.toInt + 1) := by rw [← ev187]; exact (xz_add (X := x4.toInt) (Y := 1) rfl (by decide) (by omega) (by omega)).trans (by omega)
              refine xi_iinc (pc' := 106) (x := x4) (v := v187) (lv' := [(4, .int v187), (3, .int x3), (2, .int 1), (0, .ref 115), (1, .int x1)]) kc_50_103 rfl rfl ev187 rfl (xm_lt ml_50 rfl) ?_
              refine xi_goto (pc' := 33) kc_50_106 rfl ?_
              have zc1 : (1 : Int32).toInt = 1 := by decide
              refine xw_lv (b := [(0, .ref 115), (1, .int x1), (2, .int 1), (3, .int x3), (4, .int v187)]) (lvS_cons (lvS_cons (lvS_cons (lvS_cons (lvS_cons (lvS_nil (show ([4, 3, 2, 0, 1] : List Nat).Nodup by decide)) rfl) rfl) rfl) rfl) rfl) ?_
              exact i0 x1 1 x3 v187 hh165 (by omega) (by omega) K167 (by omega)
            · refine xi_cmf (pc' := 93) kc_50_90 rfl (xc_ge_f (X := r164.toInt) (Y := x3.toInt) rfl rfl (by omega)) ?_
              refine xi_iload (pc' := 95) (x := x4) kc_50_93 rfl rfl ?_
              refine xi_static (mj := 49) (as := [.int x4]) (st1 := []) (lv0 := [(0, .int x4)]) kc_50_95 rfl rfl (Nat.le_of_ble_eq_true rfl) rfl rfl (Nat.le_of_ble_eq_true rfl) (hJ _ _ _ _ (by decide)) (xm_le ml_49 rfl) rfl ?_
              refine mt_49_0 hJ hov1 hov2 (d := d + 5) (x0 := x4) K167.1 (fun r188 hh189 K190 => ?_)
              have br188 := xc_rng r188
              have K191 := xk_tr K167 K190 (xsb_ok _ _ (by decide +kernel))
              obtain ⟨u192, u193, u194, u195, u196, u197, u198, u199, u200, u201, u202, u203, u204, bu192, bu193, bu194, bu195, bu196, bu197, bu198, bu199, bu200, bu201, bu202, bu203, bu204, A205⟩ := xq_115 K191.1
              have e206 : u2 = u193 := xk_eqi (q := 1) K190 (by decide +kernel) A181 A205 rfl rfl
              subst e206
              have e207 : u5 = u196 := xk_eqi (q := 23) K190 (by decide +kernel) A181 A205 rfl rfl
              subst e207
              have e208 : u8 = u199 := xk_eqi (q := 34) K190 (by decide +kernel) A181 A205 rfl rfl
              subst e208
              have e209 : u6 = u197 := xk_eqi (q := 32) K190 (by decide +kernel) A181 A205 rfl rfl
              subst e209
              show xw J ov (d + 7) 50 (98, [(2, .int 1), (0, .ref 115), (1, .int x1), (3, .int x3), (4, .int x4)], [.int r188], hh189) _
              refine xi_goto (pc' := 102) kc_50_98 rfl ?_
              refine xi_istore_n (pc' := 103) (lv' := [(3, .int r188), (2, .int 1), (0, .ref 115), (1, .int x1), (4, .int x4)]) kc_50_102 rfl rfl (xm_lt ml_50 rfl) ?_
              obtain ⟨v210, ev210⟩ : ∃ q : Int32, x4 + 1 = q := ⟨_, rfl⟩
              have zv210 : v210.toInt = (x4.toInt + 1) := by rw [← ev210]; exact (xz_add (X := x4.toInt) (Y := 1) rfl (by decide) (by omega) (by omega)).trans (by omega)
              refine xi_iinc (pc' := 106) (x := x4) (v := v210) (lv' := [(4, .int v210), (3, .int r188), (2, .int 1), (0, .ref 115), (1, .int x1)]) kc_50_103 rfl rfl ev210 rfl (xm_lt ml_50 rfl) ?_
              refine xi_goto (pc' := 33) kc_50_106 rfl ?_
              have zc1 : (1 : Int32).toInt = 1 := by decide
              refine xw_lv (b := [(0, .ref 115), (1, .int x1), (2, .int 1), (3, .int r188), (4, .int v210)]) (lvS_cons (lvS_cons (lvS_cons (lvS_cons (lvS_cons (lvS_nil (show ([4, 3, 2, 0, 1] : List Nat).Nodup by decide)) rfl) rfl) rfl) rfl) rfl) ?_
              exact i0 x1 1 r188 v210 hh189 (by omega) (by omega) K191 (by omega)
        · have zv20c22 : v20 ≠ 0 := xj_lc ev21 (by omega)
          refine xi_ift (pc' := 103) kc_50_51 rfl (xc_ne_t (X := v21.toInt) (Y := 0) rfl (by decide) (by omega)) ?_
          obtain ⟨v211, ev211⟩ : ∃ q : Int32, x4 + 1 = q := ⟨_, rfl⟩
          have zv211 : v211.toInt = (x4.toInt + 1) := by rw [← ev211]; exact (xz_add (X := x4.toInt) (Y := 1) rfl (by decide) (by omega) (by omega)).trans (by omega)
          refine xi_iinc (pc' := 106) (x := x4) (v := v211) (lv' := [(4, .int v211), (0, .ref 115), (1, .int x1), (2, .int x2), (3, .int x3)]) kc_50_103 rfl rfl ev211 rfl (xm_lt ml_50 rfl) ?_
          refine xi_goto (pc' := 33) kc_50_106 rfl ?_
          refine xw_lv (b := [(0, .ref 115), (1, .int x1), (2, .int x2), (3, .int x3), (4, .int v211)]) (lvS_cons (lvS_cons (lvS_cons (lvS_cons (lvS_cons (lvS_nil (show ([4, 0, 1, 2, 3] : List Nat).Nodup by decide)) rfl) rfl) rfl) rfl) rfl) ?_
          exact i0 x1 x2 x3 v211 h (by omega) (by omega) K (by omega)
    · refine xi_cmf (pc' := 10) kc_42_7 rfl (xc_ge_f (X := u5.toInt) (Y := 6) rfl (by decide) (by omega)) ?_
      refine xi_aload_n (pc' := 11) (x := 115) kc_42_10 rfl rfl ?_
      refine xi_getfield (pc' := 14) (v := .int u5) kc_42_11 rfl rfl rfl A14 rfl ?_
      refine xi_goto (pc' := 19) kc_42_14 rfl ?_
      obtain ⟨v212, ev212⟩ : ∃ q : Int32, (1 : Int32) <<< (u5 &&& 31) = q := ⟨_, rfl⟩
      have rv212 := xc_rng v212
      have bv212 : 1 ≤ v212.toInt ∧ v212.toInt ≤ 64 := by rw [← ev212]; exact xj_shl6 (by omega) (by omega)
      refine xi_ishl (pc' := 20) (v := v212) kc_42_19 rfl ev212 ?_
      refine xi_ireturn kc_42_20 mr_42 rfl ?_
      show xw J ov (d + 7) 50 (39, [(0, .ref 115), (1, .int x1), (2, .int x2), (3, .int x3), (4, .int x4)], [.int v212, .int x4], h) _
      by_cases c213 : v212.toInt ≤ x4.toInt
      · refine xi_cmt (pc' := 109) kc_50_39 rfl (xc_ge_t (X := x4.toInt) (Y := v212.toInt) rfl rfl (by omega)) ?_
        refine xi_iload_n (pc' := 110) (x := x2) kc_50_109 rfl rfl ?_
        by_cases c214 : x2.toInt = 0
        · refine xi_iff (pc' := 113) kc_50_110 rfl (xc_ne_f (X := x2.toInt) (Y := 0) rfl (by decide) (by omega)) ?_
          refine xi_bipush (pc' := 115) (v := (-9)) kc_50_113 rfl rfl ?_
          refine xi_goto (pc' := 127) kc_50_115 rfl ?_
          refine xi_ireturn kc_50_127 mr_50 rfl ?_
          have zcm9 : ((-9) : Int32).toInt = (-9) := by decide
          exact kk (-9) h K
        · refine xi_ift (pc' := 118) kc_50_110 rfl (xc_ne_t (X := x2.toInt) (Y := 0) rfl (by decide) (by omega)) ?_
          refine xi_iload_n (pc' := 119) (x := x1) kc_50_118 rfl rfl ?_
          by_cases c215 : x1.toInt = 0
          · refine xi_iff (pc' := 122) kc_50_119 rfl (xc_ne_f (X := x1.toInt) (Y := 0) rfl (by decide) (by omega)) ?_
            refine xi_iload_n (pc' := 123) (x := x2) kc_50_122 rfl rfl ?_
            refine xi_goto (pc' := 127) kc_50_123 rfl ?_
            refine xi_ireturn kc_50_127 mr_50 rfl ?_
            exact kk x2 h K
          · refine xi_ift (pc' := 126) kc_50_119 rfl (xc_ne_t (X := x1.toInt) (Y := 0) rfl (by decide) (by omega)) ?_
            refine xi_iload_n (pc' := 127) (x := x3) kc_50_126 rfl rfl ?_
            refine xi_ireturn kc_50_127 mr_50 rfl ?_
            exact kk x3 h K
      · refine xi_cmf (pc' := 42) kc_50_39 rfl (xc_ge_f (X := x4.toInt) (Y := v212.toInt) rfl rfl (by omega)) ?_
        refine xi_aload_n (pc' := 43) (x := 115) kc_50_42 rfl rfl ?_
        refine xi_getfield (pc' := 46) (v := .ref 149) kc_50_43 rfl rfl rfl A14 rfl ?_
        refine xi_iload (pc' := 48) (x := x4) kc_50_46 rfl rfl ?_
        obtain ⟨y216, A216, hy216⟩ := xk_larr K.1 xD_149
        obtain ⟨v217, ev217⟩ : ∃ q : Int64, y216.getD (Int32.toNatClampNeg x4) 0 = q := ⟨_, rfl⟩
        refine xi_laload (pc' := 49) (v := v217) kc_50_48 rfl A216 rfl (xi_in (by omega) (by rw [hy216]; omega)) ev217 ?_
        refine xi_lconst (pc' := 50) (v := 0) kc_50_49 rfl rfl ?_
        obtain ⟨v218, ev218⟩ : ∃ q : Int32, lg_cmp v217 0 = q := ⟨_, rfl⟩
        have rv218 := xc_rng v218
        refine xi_lcmp (pc' := 51) (v := v218) kc_50_50 rfl ev218 ?_
        by_cases c219 : v218.toInt = 0
        · refine xi_iff (pc' := 54) kc_50_51 rfl (xc_ne_f (X := v218.toInt) (Y := 0) rfl (by decide) (by omega)) ?_
          refine xi_iload (pc' := 56) (x := x4) kc_50_54 rfl rfl ?_
          refine xi_static (mj := 49) (as := [.int x4]) (st1 := []) (lv0 := [(0, .int x4)]) kc_50_56 rfl rfl (Nat.le_of_ble_eq_true rfl) rfl rfl (Nat.le_of_ble_eq_true rfl) (hJ _ _ _ _ (by decide)) (xm_le ml_49 rfl) rfl ?_
          refine mt_49_0 hJ hov1 hov2 (d := d + 5) (x0 := x4) K.1 (fun r220 hh221 K222 => ?_)
          have br220 := xc_rng r220
          have K223 := xk_tr K K222 (xsb_ok _ _ (by decide +kernel))
          obtain ⟨u224, u225, u226, u227, u228, u229, u230, u231, u232, u233, u234, u235, u236, bu224, bu225, bu226, bu227, bu228, bu229, bu230, bu231, bu232, bu233, bu234, bu235, bu236, A237⟩ := xq_115 K223.1
          have e238 : u2 = u225 := xk_eqi (q := 1) K222 (by decide +kernel) A14 A237 rfl rfl
          subst e238
          have e239 : u5 = u228 := xk_eqi (q := 23) K222 (by decide +kernel) A14 A237 rfl rfl
          subst e239
          have e240 : u8 = u231 := xk_eqi (q := 34) K222 (by decide +kernel) A14 A237 rfl rfl
          subst e240
          have e241 : u6 = u229 := xk_eqi (q := 32) K222 (by decide +kernel) A14 A237 rfl rfl
          subst e241
          show xw J ov (d + 7) 50 (59, [(0, .ref 115), (1, .int x1), (2, .int x2), (3, .int x3), (4, .int x4)], [.int r220], hh221) _
          refine xi_iload_n (pc' := 60) (x := x3) kc_50_59 rfl rfl ?_
          by_cases c242 : x3.toInt ≤ r220.toInt
          · refine xi_cmt (pc' := 67) kc_50_60 rfl (xc_ge_t (X := r220.toInt) (Y := x3.toInt) rfl rfl (by omega)) ?_
            refine xi_iload (pc' := 69) (x := x4) kc_50_67 rfl rfl ?_
            refine xi_static (mj := 49) (as := [.int x4]) (st1 := []) (lv0 := [(0, .int x4)]) kc_50_69 rfl rfl (Nat.le_of_ble_eq_true rfl) rfl rfl (Nat.le_of_ble_eq_true rfl) (hJ _ _ _ _ (by decide)) (xm_le ml_49 rfl) rfl ?_
            refine mt_49_0 hJ hov1 hov2 (d := d + 5) (x0 := x4) K223.1 (fun r243 hh244 K245 => ?_)
            have br243 := xc_rng r243
            have K246 := xk_tr K223 K245 (xsb_ok _ _ (by decide +kernel))
            obtain ⟨u247, u248, u249, u250, u251, u252, u253, u254, u255, u256, u257, u258, u259, bu247, bu248, bu249, bu250, bu251, bu252, bu253, bu254, bu255, bu256, bu257, bu258, bu259, A260⟩ := xq_115 K246.1
            have e261 : u2 = u248 := xk_eqi (q := 1) K245 (by decide +kernel) A237 A260 rfl rfl
            subst e261
            have e262 : u5 = u251 := xk_eqi (q := 23) K245 (by decide +kernel) A237 A260 rfl rfl
            subst e262
            have e263 : u8 = u254 := xk_eqi (q := 34) K245 (by decide +kernel) A237 A260 rfl rfl
            subst e263
            have e264 : u6 = u252 := xk_eqi (q := 32) K245 (by decide +kernel) A237 A260 rfl rfl
            subst e264
            show xw J ov (d + 7) 50 (72, [(0, .ref 115), (1, .int x1), (2, .int x2), (3, .int x3), (4, .int x4)], [.int r243], hh244) _
            refine xi_iload_n (pc' := 73) (x := x3) kc_50_72 rfl rfl ?_
            by_cases c265 : r243.toInt = x3.toInt
            · refine xi_cmf (pc' := 76) kc_50_73 rfl (xc_ne_f (X := r243.toInt) (Y := x3.toInt) rfl rfl (by omega)) ?_
              refine xi_iload_n (pc' := 77) (x := x2) kc_50_76 rfl rfl ?_
              refine xi_iconst (pc' := 78) (v := 1) kc_50_77 rfl rfl ?_
              obtain ⟨v266, ev266⟩ : ∃ q : Int32, (x2 : Int32) + 1 = q := ⟨_, rfl⟩
              have rv266 := xc_rng v266
              refine xi_iadd (pc' := 79) (v := v266) kc_50_78 rfl ev266 ?_
              refine xi_goto (pc' := 83) kc_50_79 rfl ?_
              refine xi_istore_n (pc' := 84) (lv' := [(2, .int v266), (0, .ref 115), (1, .int x1), (3, .int x3), (4, .int x4)]) kc_50_83 rfl rfl (xm_lt ml_50 rfl) ?_
              refine xi_iload (pc' := 86) (x := x4) kc_50_84 rfl rfl ?_
              refine xi_static (mj := 49) (as := [.int x4]) (st1 := []) (lv0 := [(0, .int x4)]) kc_50_86 rfl rfl (Nat.le_of_ble_eq_true rfl) rfl rfl (Nat.le_of_ble_eq_true rfl) (hJ _ _ _ _ (by decide)) (xm_le ml_49 rfl) rfl ?_
              refine mt_49_0 hJ hov1 hov2 (d := d + 5) (x0 := x4) K246.1 (fun r267 hh268 K269 => ?_)
              have br267 := xc_rng r267
              have K270 := xk_tr K246 K269 (xsb_ok _ _ (by decide +kernel))
              obtain ⟨u271, u272, u273, u274, u275, u276, u277, u278, u279, u280, u281, u282, u283, bu271, bu272, bu273, bu274, bu275, bu276, bu277, bu278, bu279, bu280, bu281, bu282, bu283, A284⟩ := xq_115 K270.1
              have e285 : u2 = u272 := xk_eqi (q := 1) K269 (by decide +kernel) A260 A284 rfl rfl
              subst e285
              have e286 : u5 = u275 := xk_eqi (q := 23) K269 (by decide +kernel) A260 A284 rfl rfl
              subst e286
              have e287 : u8 = u278 := xk_eqi (q := 34) K269 (by decide +kernel) A260 A284 rfl rfl
              subst e287
              have e288 : u6 = u276 := xk_eqi (q := 32) K269 (by decide +kernel) A260 A284 rfl rfl
              subst e288
              show xw J ov (d + 7) 50 (89, [(2, .int v266), (0, .ref 115), (1, .int x1), (3, .int x3), (4, .int x4)], [.int r267], hh268) _
              refine xi_iload_n (pc' := 90) (x := x3) kc_50_89 rfl rfl ?_
              by_cases c289 : x3.toInt ≤ r267.toInt
              · refine xi_cmt (pc' := 101) kc_50_90 rfl (xc_ge_t (X := r267.toInt) (Y := x3.toInt) rfl rfl (by omega)) ?_
                refine xi_iload_n (pc' := 102) (x := x3) kc_50_101 rfl rfl ?_
                refine xi_istore_n (pc' := 103) (lv' := [(3, .int x3), (2, .int v266), (0, .ref 115), (1, .int x1), (4, .int x4)]) kc_50_102 rfl rfl (xm_lt ml_50 rfl) ?_
                obtain ⟨v290, ev290⟩ : ∃ q : Int32, x4 + 1 = q := ⟨_, rfl⟩
                have zv290 : v290.toInt = (x4.toInt + 1) := by rw [← ev290]; exact (xz_add (X := x4.toInt) (Y := 1) rfl (by decide) (by omega) (by omega)).trans (by omega)
                refine xi_iinc (pc' := 106) (x := x4) (v := v290) (lv' := [(4, .int v290), (3, .int x3), (2, .int v266), (0, .ref 115), (1, .int x1)]) kc_50_103 rfl rfl ev290 rfl (xm_lt ml_50 rfl) ?_
                refine xi_goto (pc' := 33) kc_50_106 rfl ?_
                refine xw_lv (b := [(0, .ref 115), (1, .int x1), (2, .int v266), (3, .int x3), (4, .int v290)]) (lvS_cons (lvS_cons (lvS_cons (lvS_cons (lvS_cons (lvS_nil (show ([4, 3, 2, 0, 1] : List Nat).Nodup by decide)) rfl) rfl) rfl) rfl) rfl) ?_
                exact i0 x1 v266 x3 v290 hh268 (by omega) (by omega) K270 (by omega)
              · refine xi_cmf (pc' := 93) kc_50_90 rfl (xc_ge_f (X := r267.toInt) (Y := x3.toInt) rfl rfl (by omega)) ?_
                refine xi_iload (pc' := 95) (x := x4) kc_50_93 rfl rfl ?_
                refine xi_static (mj := 49) (as := [.int x4]) (st1 := []) (lv0 := [(0, .int x4)]) kc_50_95 rfl rfl (Nat.le_of_ble_eq_true rfl) rfl rfl (Nat.le_of_ble_eq_true rfl) (hJ _ _ _ _ (by decide)) (xm_le ml_49 rfl) rfl ?_
                refine mt_49_0 hJ hov1 hov2 (d := d + 5) (x0 := x4) K270.1 (fun r291 hh292 K293 => ?_)
                have br291 := xc_rng r291
                have K294 := xk_tr K270 K293 (xsb_ok _ _ (by decide +kernel))
                obtain ⟨u295, u296, u297, u298, u299, u300, u301, u302, u303, u304, u305, u306, u307, bu295, bu296, bu297, bu298, bu299, bu300, bu301, bu302, bu303, bu304, bu305, bu306, bu307, A308⟩ := xq_115 K294.1
                have e309 : u2 = u296 := xk_eqi (q := 1) K293 (by decide +kernel) A284 A308 rfl rfl
                subst e309
                have e310 : u5 = u299 := xk_eqi (q := 23) K293 (by decide +kernel) A284 A308 rfl rfl
                subst e310
                have e311 : u8 = u302 := xk_eqi (q := 34) K293 (by decide +kernel) A284 A308 rfl rfl
                subst e311
                have e312 : u6 = u300 := xk_eqi (q := 32) K293 (by decide +kernel) A284 A308 rfl rfl
                subst e312
                show xw J ov (d + 7) 50 (98, [(2, .int v266), (0, .ref 115), (1, .int x1), (3, .int x3), (4, .int x4)], [.int r291], hh292) _
                refine xi_goto (pc' := 102) kc_50_98 rfl ?_
                refine xi_istore_n (pc' := 103) (lv' := [(3, .int r291), (2, .int v266), (0, .ref 115), (1, .int x1), (4, .int x4)]) kc_50_102 rfl rfl (xm_lt ml_50 rfl) ?_
                obtain ⟨v313, ev313⟩ : ∃ q : Int32, x4 + 1 = q := ⟨_, rfl⟩
                have zv313 : v313.toInt = (x4.toInt + 1) := by rw [← ev313]; exact (xz_add (X := x4.toInt) (Y := 1) rfl (by decide) (by omega) (by omega)).trans (by omega)
                refine xi_iinc (pc' := 106) (x := x4) (v := v313) (lv' := [(4, .int v313), (3, .int r291), (2, .int v266), (0, .ref 115), (1, .int x1)]) kc_50_103 rfl rfl ev313 rfl (xm_lt ml_50 rfl) ?_
                refine xi_goto (pc' := 33) kc_50_106 rfl ?_
                refine xw_lv (b := [(0, .ref 115), (1, .int x1), (2, .int v266), (3, .int r291), (4, .int v313)]) (lvS_cons (lvS_cons (lvS_cons (lvS_cons (lvS_cons (lvS_nil (show ([4, 3, 2, 0, 1] : List Nat).Nodup by decide)) rfl) rfl) rfl) rfl) rfl) ?_
                exact i0 x1 v266 r291 v313 hh292 (by omega) (by omega) K294 (by omega)
            · refine xi_cmt (pc' := 82) kc_50_73 rfl (xc_ne_t (X := r243.toInt) (Y := x3.toInt) rfl rfl (by omega)) ?_
              refine xi_iload_n (pc' := 83) (x := x2) kc_50_82 rfl rfl ?_
              refine xi_istore_n (pc' := 84) (lv' := [(2, .int x2), (0, .ref 115), (1, .int x1), (3, .int x3), (4, .int x4)]) kc_50_83 rfl rfl (xm_lt ml_50 rfl) ?_
              refine xi_iload (pc' := 86) (x := x4) kc_50_84 rfl rfl ?_
              refine xi_static (mj := 49) (as := [.int x4]) (st1 := []) (lv0 := [(0, .int x4)]) kc_50_86 rfl rfl (Nat.le_of_ble_eq_true rfl) rfl rfl (Nat.le_of_ble_eq_true rfl) (hJ _ _ _ _ (by decide)) (xm_le ml_49 rfl) rfl ?_
              refine mt_49_0 hJ hov1 hov2 (d := d + 5) (x0 := x4) K246.1 (fun r314 hh315 K316 => ?_)
              have br314 := xc_rng r314
              have K317 := xk_tr K246 K316 (xsb_ok _ _ (by decide +kernel))
              obtain ⟨u318, u319, u320, u321, u322, u323, u324, u325, u326, u327, u328, u329, u330, bu318, bu319, bu320, bu321, bu322, bu323, bu324, bu325, bu326, bu327, bu328, bu329, bu330, A331⟩ := xq_115 K317.1
              have e332 : u2 = u319 := xk_eqi (q := 1) K316 (by decide +kernel) A260 A331 rfl rfl
              subst e332
              have e333 : u5 = u322 := xk_eqi (q := 23) K316 (by decide +kernel) A260 A331 rfl rfl
              subst e333
              have e334 : u8 = u325 := xk_eqi (q := 34) K316 (by decide +kernel) A260 A331 rfl rfl
              subst e334
              have e335 : u6 = u323 := xk_eqi (q := 32) K316 (by decide +kernel) A260 A331 rfl rfl
              subst e335
              show xw J ov (d + 7) 50 (89, [(2, .int x2), (0, .ref 115), (1, .int x1), (3, .int x3), (4, .int x4)], [.int r314], hh315) _
              refine xi_iload_n (pc' := 90) (x := x3) kc_50_89 rfl rfl ?_
              by_cases c336 : x3.toInt ≤ r314.toInt
              · refine xi_cmt (pc' := 101) kc_50_90 rfl (xc_ge_t (X := r314.toInt) (Y := x3.toInt) rfl rfl (by omega)) ?_
                refine xi_iload_n (pc' := 102) (x := x3) kc_50_101 rfl rfl ?_
                refine xi_istore_n (pc' := 103) (lv' := [(3, .int x3), (2, .int x2), (0, .ref 115), (1, .int x1), (4, .int x4)]) kc_50_102 rfl rfl (xm_lt ml_50 rfl) ?_
                obtain ⟨v337, ev337⟩ : ∃ q : Int32, x4 + 1 = q := ⟨_, rfl⟩
                have zv337 : v337.toInt = (x4.toInt + 1) := by rw [← ev337]; exact (xz_add (X := x4.toInt) (Y := 1) rfl (by decide) (by omega) (by omega)).trans (by omega)
                refine xi_iinc (pc' := 106) (x := x4) (v := v337) (lv' := [(4, .int v337), (3, .int x3), (2, .int x2), (0, .ref 115), (1, .int x1)]) kc_50_103 rfl rfl ev337 rfl (xm_lt ml_50 rfl) ?_
                refine xi_goto (pc' := 33) kc_50_106 rfl ?_
                refine xw_lv (b := [(0, .ref 115), (1, .int x1), (2, .int x2), (3, .int x3), (4, .int v337)]) (lvS_cons (lvS_cons (lvS_cons (lvS_cons (lvS_cons (lvS_nil (show ([4, 3, 2, 0, 1] : List Nat).Nodup by decide)) rfl) rfl) rfl) rfl) rfl) ?_
                exact i0 x1 x2 x3 v337 hh315 (by omega) (by omega) K317 (by omega)
              · refine xi_cmf (pc' := 93) kc_50_90 rfl (xc_ge_f (X := r314.toInt) (Y := x3.toInt) rfl rfl (by omega)) ?_
                refine xi_iload (pc' := 95) (x := x4) kc_50_93 rfl rfl ?_
                refine xi_static (mj := 49) (as := [.int x4]) (st1 := []) (lv0 := [(0, .int x4)]) kc_50_95 rfl rfl (Nat.le_of_ble_eq_true rfl) rfl rfl (Nat.le_of_ble_eq_true rfl) (hJ _ _ _ _ (by decide)) (xm_le ml_49 rfl) rfl ?_
                refine mt_49_0 hJ hov1 hov2 (d := d + 5) (x0 := x4) K317.1 (fun r338 hh339 K340 => ?_)
                have br338 := xc_rng r338
                have K341 := xk_tr K317 K340 (xsb_ok _ _ (by decide +kernel))
                obtain ⟨u342, u343, u344, u345, u346, u347, u348, u349, u350, u351, u352, u353, u354, bu342, bu343, bu344, bu345, bu346, bu347, bu348, bu349, bu350, bu351, bu352, bu353, bu354, A355⟩ := xq_115 K341.1
                have e356 : u2 = u343 := xk_eqi (q := 1) K340 (by decide +kernel) A331 A355 rfl rfl
                subst e356
                have e357 : u5 = u346 := xk_eqi (q := 23) K340 (by decide +kernel) A331 A355 rfl rfl
                subst e357
                have e358 : u8 = u349 := xk_eqi (q := 34) K340 (by decide +kernel) A331 A355 rfl rfl
                subst e358
                have e359 : u6 = u347 := xk_eqi (q := 32) K340 (by decide +kernel) A331 A355 rfl rfl
                subst e359
                show xw J ov (d + 7) 50 (98, [(2, .int x2), (0, .ref 115), (1, .int x1), (3, .int x3), (4, .int x4)], [.int r338], hh339) _
                refine xi_goto (pc' := 102) kc_50_98 rfl ?_
                refine xi_istore_n (pc' := 103) (lv' := [(3, .int r338), (2, .int x2), (0, .ref 115), (1, .int x1), (4, .int x4)]) kc_50_102 rfl rfl (xm_lt ml_50 rfl) ?_
                obtain ⟨v360, ev360⟩ : ∃ q : Int32, x4 + 1 = q := ⟨_, rfl⟩
                have zv360 : v360.toInt = (x4.toInt + 1) := by rw [← ev360]; exact (xz_add (X := x4.toInt) (Y := 1) rfl (by decide) (by omega) (by omega)).trans (by omega)
                refine xi_iinc (pc' := 106) (x := x4) (v := v360) (lv' := [(4, .int v360), (3, .int r338), (2, .int x2), (0, .ref 115), (1, .int x1)]) kc_50_103 rfl rfl ev360 rfl (xm_lt ml_50 rfl) ?_
                refine xi_goto (pc' := 33) kc_50_106 rfl ?_
                refine xw_lv (b := [(0, .ref 115), (1, .int x1), (2, .int x2), (3, .int r338), (4, .int v360)]) (lvS_cons (lvS_cons (lvS_cons (lvS_cons (lvS_cons (lvS_nil (show ([4, 3, 2, 0, 1] : List Nat).Nodup by decide)) rfl) rfl) rfl) rfl) rfl) ?_
                exact i0 x1 x2 r338 v360 hh339 (by omega) (by omega) K341 (by omega)
          · refine xi_cmf (pc' := 63) kc_50_60 rfl (xc_ge_f (X := r220.toInt) (Y := x3.toInt) rfl rfl (by omega)) ?_
            refine xi_iconst (pc' := 64) (v := 1) kc_50_63 rfl rfl ?_
            refine xi_goto (pc' := 83) kc_50_64 rfl ?_
            refine xi_istore_n (pc' := 84) (lv' := [(2, .int 1), (0, .ref 115), (1, .int x1), (3, .int x3), (4, .int x4)]) kc_50_83 rfl rfl (xm_lt ml_50 rfl) ?_
            refine xi_iload (pc' := 86) (x := x4) kc_50_84 rfl rfl ?_
            refine xi_static (mj := 49) (as := [.int x4]) (st1 := []) (lv0 := [(0, .int x4)]) kc_50_86 rfl rfl (Nat.le_of_ble_eq_true rfl) rfl rfl (Nat.le_of_ble_eq_true rfl) (hJ _ _ _ _ (by decide)) (xm_le ml_49 rfl) rfl ?_
            refine mt_49_0 hJ hov1 hov2 (d := d + 5) (x0 := x4) K223.1 (fun r361 hh362 K363 => ?_)
            have br361 := xc_rng r361
            have K364 := xk_tr K223 K363 (xsb_ok _ _ (by decide +kernel))
            obtain ⟨u365, u366, u367, u368, u369, u370, u371, u372, u373, u374, u375, u376, u377, bu365, bu366, bu367, bu368, bu369, bu370, bu371, bu372, bu373, bu374, bu375, bu376, bu377, A378⟩ := xq_115 K364.1
            have e379 : u2 = u366 := xk_eqi (q := 1) K363 (by decide +kernel) A237 A378 rfl rfl
            subst e379
            have e380 : u5 = u369 := xk_eqi (q := 23) K363 (by decide +kernel) A237 A378 rfl rfl
            subst e380
            have e381 : u8 = u372 := xk_eqi (q := 34) K363 (by decide +kernel) A237 A378 rfl rfl
            subst e381
            have e382 : u6 = u370 := xk_eqi (q := 32) K363 (by decide +kernel) A237 A378 rfl rfl
            subst e382
            show xw J ov (d + 7) 50 (89, [(2, .int 1), (0, .ref 115), (1, .int x1), (3, .int x3), (4, .int x4)], [.int r361], hh362) _
            refine xi_iload_n (pc' := 90) (x := x3) kc_50_89 rfl rfl ?_
            by_cases c383 : x3.toInt ≤ r361.toInt
            · refine xi_cmt (pc' := 101) kc_50_90 rfl (xc_ge_t (X := r361.toInt) (Y := x3.toInt) rfl rfl (by omega)) ?_
              refine xi_iload_n (pc' := 102) (x := x3) kc_50_101 rfl rfl ?_
              refine xi_istore_n (pc' := 103) (lv' := [(3, .int x3), (2, .int 1), (0, .ref 115), (1, .int x1), (4, .int x4)]) kc_50_102 rfl rfl (xm_lt ml_50 rfl) ?_
              obtain ⟨v384, ev384⟩ : ∃ q : Int32, x4 + 1 = q := ⟨_, rfl⟩
              have zv384 : v384.toInt = (x4.toInt + 1) := by rw [← ev384]; exact (xz_add (X := x4.toInt) (Y := 1) rfl (by decide) (by omega) (by omega)).trans (by omega)
              refine xi_iinc (pc' := 106) (x := x4) (v := v384) (lv' := [(4, .int v384), (3, .int x3), (2, .int 1), (0, .ref 115), (1, .int x1)]) kc_50_103 rfl rfl ev384 rfl (xm_lt ml_50 rfl) ?_
              refine xi_goto (pc' := 33) kc_50_106 rfl ?_
              have zc1 : (1 : Int32).toInt = 1 := by decide
              refine xw_lv (b := [(0, .ref 115), (1, .int x1), (2, .int 1), (3, .int x3), (4, .int v384)]) (lvS_cons (lvS_cons (lvS_cons (lvS_cons (lvS_cons (lvS_nil (show ([4, 3, 2, 0, 1] : List Nat).Nodup by decide)) rfl) rfl) rfl) rfl) rfl) ?_
              exact i0 x1 1 x3 v384 hh362 (by omega) (by omega) K364 (by omega)
            · refine xi_cmf (pc' := 93) kc_50_90 rfl (xc_ge_f (X := r361.toInt) (Y := x3.toInt) rfl rfl (by omega)) ?_
              refine xi_iload (pc' := 95) (x := x4) kc_50_93 rfl rfl ?_
              refine xi_static (mj := 49) (as := [.int x4]) (st1 := []) (lv0 := [(0, .int x4)]) kc_50_95 rfl rfl (Nat.le_of_ble_eq_true rfl) rfl rfl (Nat.le_of_ble_eq_true rfl) (hJ _ _ _ _ (by decide)) (xm_le ml_49 rfl) rfl ?_
              refine mt_49_0 hJ hov1 hov2 (d := d + 5) (x0 := x4) K364.1 (fun r385 hh386 K387 => ?_)
              have br385 := xc_rng r385
              have K388 := xk_tr K364 K387 (xsb_ok _ _ (by decide +kernel))
              obtain ⟨u389, u390, u391, u392, u393, u394, u395, u396, u397, u398, u399, u400, u401, bu389, bu390, bu391, bu392, bu393, bu394, bu395, bu396, bu397, bu398, bu399, bu400, bu401, A402⟩ := xq_115 K388.1
              have e403 : u2 = u390 := xk_eqi (q := 1) K387 (by decide +kernel) A378 A402 rfl rfl
              subst e403
              have e404 : u5 = u393 := xk_eqi (q := 23) K387 (by decide +kernel) A378 A402 rfl rfl
              subst e404
              have e405 : u8 = u396 := xk_eqi (q := 34) K387 (by decide +kernel) A378 A402 rfl rfl
              subst e405
              have e406 : u6 = u394 := xk_eqi (q := 32) K387 (by decide +kernel) A378 A402 rfl rfl
              subst e406
              show xw J ov (d + 7) 50 (98, [(2, .int 1), (0, .ref 115), (1, .int x1), (3, .int x3), (4, .int x4)], [.int r385], hh386) _
              refine xi_goto (pc' := 102) kc_50_98 rfl ?_
              refine xi_istore_n (pc' := 103) (lv' := [(3, .int r385), (2, .int 1), (0, .ref 115), (1, .int x1), (4, .int x4)]) kc_50_102 rfl rfl (xm_lt ml_50 rfl) ?_
              obtain ⟨v407, ev407⟩ : ∃ q : Int32, x4 + 1 = q := ⟨_, rfl⟩
              have zv407 : v407.toInt = (x4.toInt + 1) := by rw [← ev407]; exact (xz_add (X := x4.toInt) (Y := 1) rfl (by decide) (by omega) (by omega)).trans (by omega)
              refine xi_iinc (pc' := 106) (x := x4) (v := v407) (lv' := [(4, .int v407), (3, .int r385), (2, .int 1), (0, .ref 115), (1, .int x1)]) kc_50_103 rfl rfl ev407 rfl (xm_lt ml_50 rfl) ?_
              refine xi_goto (pc' := 33) kc_50_106 rfl ?_
              have zc1 : (1 : Int32).toInt = 1 := by decide
              refine xw_lv (b := [(0, .ref 115), (1, .int x1), (2, .int 1), (3, .int r385), (4, .int v407)]) (lvS_cons (lvS_cons (lvS_cons (lvS_cons (lvS_cons (lvS_nil (show ([4, 3, 2, 0, 1] : List Nat).Nodup by decide)) rfl) rfl) rfl) rfl) rfl) ?_
              exact i0 x1 1 r385 v407 hh386 (by omega) (by omega) K388 (by omega)
        · have zv217c219 : v217 ≠ 0 := xj_lc ev218 (by omega)
          refine xi_ift (pc' := 103) kc_50_51 rfl (xc_ne_t (X := v218.toInt) (Y := 0) rfl (by decide) (by omega)) ?_
          obtain ⟨v408, ev408⟩ : ∃ q : Int32, x4 + 1 = q := ⟨_, rfl⟩
          have zv408 : v408.toInt = (x4.toInt + 1) := by rw [← ev408]; exact (xz_add (X := x4.toInt) (Y := 1) rfl (by decide) (by omega) (by omega)).trans (by omega)
          refine xi_iinc (pc' := 106) (x := x4) (v := v408) (lv' := [(4, .int v408), (0, .ref 115), (1, .int x1), (2, .int x2), (3, .int x3)]) kc_50_103 rfl rfl ev408 rfl (xm_lt ml_50 rfl) ?_
          refine xi_goto (pc' := 33) kc_50_106 rfl ?_
          refine xw_lv (b := [(0, .ref 115), (1, .int x1), (2, .int x2), (3, .int x3), (4, .int v408)]) (lvS_cons (lvS_cons (lvS_cons (lvS_cons (lvS_cons (lvS_nil (show ([4, 0, 1, 2, 3] : List Nat).Nodup by decide)) rfl) rfl) rfl) rfl) rfl) ?_
          exact i0 x1 x2 x3 v408 h (by omega) (by omega) K (by omega)
set_option maxHeartbeats 4000000 in
theorem mt_50_0 {J : xe_J} {ov : List (List Int32)} (hJ : ∀ d mj as h, mj ≠ xe_loff → J d mj as h = none) (hov1 : ov[1]? = some [10, 0, 0, 0, 0, 0]) (hov2 : ov[2]? = some [99, 30, 50, 50, 1, 99999]) {d : Nat} {Q : Option Value → xe_H → Prop} {h : xe_H} {x1 : Int32} (T : xt h) (kk : (∀ (r : Int32) (h' : xe_H), xk xP_17 h h' → Q (some (.int r)) h')) : xw J ov (d + 7) 50 (0, [(0, .ref 115), (1, .int x1)], [], h) Q := by
  have K : xk xP_17 h h := xk_re T
  have rx1 := xc_rng x1
  refine xi_aload_n (pc' := 1) (x := 115) kc_50_0 rfl rfl ?_
  refine xi_iconst (pc' := 2) (v := 0) kc_50_1 rfl rfl ?_
  obtain ⟨u1, u2, u3, u4, u5, u6, u7, u8, u9, u10, u11, u12, u13, bu1, bu2, bu3, bu4, bu5, bu6, bu7, bu8, bu9, bu10, bu11, bu12, bu13, A14⟩ := xq_115 K.1
  refine xi_putfield (pc' := 5) (fs' := [.int 0, .int u2, .ref 116, .ref 117, .ref 118, .ref 119, .ref 120, .ref 121, .ref 122, .ref 123, .ref 124, .ref 125, .ref 126, .ref 127, .ref 128, .ref 129, .int u3, .ref 130, .int u4, .ref 131, .ref 132, .ref 133, .ref 134, .int u5, .ref 135, .ref 136, .ref 137, .ref 138, .ref 139, .ref 140, .ref 141, .ref 142, .int u6, .int u7, .int u8, .ref 143, .ref 144, .ref 145, .ref 146, .ref 147, .ref 148, .int u9, .ref 149, .ref 150, .ref 151, .int u10, .ref 152, .ref 153, .ref 154, .ref 155, .ref 156, .ref 157, .ref 158, .ref 159, .int u11, .ref 160, .int u12, .ref 161, .ref 162, .ref 163, .ref 164, .int u13, .ref 165, .ref 166]) kc_50_2 rfl rfl rfl A14 rfl rfl rfl (Nat.le_of_ble_eq_true rfl) rfl (fun hh16 eh15 => ?_)
  have K17 := xk_pf (k := 0) (v := 0) K (xk_wf (by decide +kernel)) xD_115 A14 rfl (by first | omega | decide) (by first | omega | decide) eh15 rfl
  refine xi_iload_n (pc' := 6) (x := x1) kc_50_5 rfl rfl ?_
  refine xi_iconst (pc' := 7) (v := 0) kc_50_6 rfl rfl ?_
  refine xi_iconst (pc' := 8) (v := 1) kc_50_7 rfl rfl ?_
  refine xi_static (mj := 11) (as := [.int x1, .int 0, .int 1]) (st1 := []) (lv0 := [(0, .int x1), (1, .int 0), (2, .int 1)]) kc_50_8 rfl rfl (Nat.le_of_ble_eq_true rfl) rfl rfl (Nat.le_of_ble_eq_true rfl) (hJ _ _ _ _ (by decide)) (xm_le ml_11 rfl) rfl ?_
  refine xi_iload_n (pc' := 1) (x := x1) kc_11_0 rfl rfl ?_
  refine xi_iload_n (pc' := 2) (x := 0) kc_11_1 rfl rfl ?_
  by_cases c18 : x1.toInt < 0
  · refine xi_cmt (pc' := 14) kc_11_2 rfl (xc_lt_t (X := x1.toInt) (Y := 0) rfl (by decide) (by omega)) ?_
    refine xi_iconst (pc' := 15) (v := 0) kc_11_14 rfl rfl ?_
    refine xi_ireturn kc_11_15 mr_11 rfl ?_
    show xw J ov (d + 7) 50 (11, [(0, .ref 115), (1, .int x1)], [.int 0], hh16) _
    refine xi_iff (pc' := 14) kc_50_11 rfl rfl ?_
    refine xi_aload_n (pc' := 15) (x := 115) kc_50_14 rfl rfl ?_
    refine xi_bipush (pc' := 17) (v := (-2)) kc_50_15 rfl rfl ?_
    refine xi_virtual (mj := 12) (as := [.int (-2)]) (st1 := []) (lv0 := [(0, .ref 115), (1, .int (-2))]) kc_50_17 rfl rfl rfl rfl rfl eh15.1 (Nat.le_of_ble_eq_true rfl) (hJ _ _ _ _ (by decide)) (xm_le ml_12 rfl) rfl ?_
    refine xi_aload_n (pc' := 1) (x := 115) kc_12_0 rfl rfl ?_
    refine xi_getfield (pc' := 4) (v := .ref 140) kc_12_1 rfl rfl rfl eh15.1 rfl ?_
    refine xi_iload_n (pc' := 5) (x := (-2)) kc_12_4 rfl rfl ?_
    refine xi_ineg (pc' := 6) (v := 2) kc_12_5 rfl rfl ?_
    refine xi_dup2 (pc' := 7) kc_12_6 rfl ⟨rfl, rfl⟩ ?_
    obtain ⟨y19, A19, hy19, ry19⟩ := xk_arr K17.1 xD_140
    obtain ⟨v20, ev20, bv20, dv20⟩ := xj_get hy19 ry19 (i := 2) (by decide) (by decide)
    refine xi_iaload (pc' := 8) (v := v20) kc_12_7 rfl A19 (by decide) rfl (xi_in (by decide) (by rw [hy19]; decide)) ev20 ?_
    refine xi_iconst (pc' := 9) (v := 1) kc_12_8 rfl rfl ?_
    obtain ⟨v21, ev21⟩ : ∃ q : Int32, (v20 : Int32) + 1 = q := ⟨_, rfl⟩
    have rv21 := xc_rng v21
    refine xi_iadd (pc' := 10) (v := v21) kc_12_9 rfl ev21 ?_
    obtain ⟨y22, s22, hy22, ry22⟩ := xj_set (v := v21) hy19 ry19 2 (by first | omega | decide) (by first | omega | decide)
    refine xi_iastore (pc' := 11) (x' := y22) kc_12_10 rfl A19 rfl (xi_in (by decide) (by rw [hy19]; decide)) s22 (fun hh22 eh22 => ?_)
    have K23 := xk_pa K17 (xk_wa (by decide +kernel)) xD_140 hy22 ry22 eh22
    refine xi_iload_n (pc' := 12) (x := (-2)) kc_12_11 rfl rfl ?_
    refine xi_ireturn kc_12_12 mr_12 rfl ?_
    show xw J ov (d + 7) 50 (20, [(0, .ref 115), (1, .int x1)], [.int (-2)], hh22) _
    refine xi_ireturn kc_50_20 mr_50 rfl ?_
    have zcm2 : ((-2) : Int32).toInt = (-2) := by decide
    exact kk (-2) hh22 K23
  · refine xi_cmf (pc' := 5) kc_11_2 rfl (xc_lt_f (X := x1.toInt) (Y := 0) rfl (by decide) (by omega)) ?_
    refine xi_iload_n (pc' := 6) (x := x1) kc_11_5 rfl rfl ?_
    refine xi_iload_n (pc' := 7) (x := 1) kc_11_6 rfl rfl ?_
    by_cases c24 : 1 < x1.toInt
    · refine xi_cmt (pc' := 14) kc_11_7 rfl (xc_gt_t (X := x1.toInt) (Y := 1) rfl (by decide) (by omega)) ?_
      refine xi_iconst (pc' := 15) (v := 0) kc_11_14 rfl rfl ?_
      refine xi_ireturn kc_11_15 mr_11 rfl ?_
      show xw J ov (d + 7) 50 (11, [(0, .ref 115), (1, .int x1)], [.int 0], hh16) _
      refine xi_iff (pc' := 14) kc_50_11 rfl rfl ?_
      refine xi_aload_n (pc' := 15) (x := 115) kc_50_14 rfl rfl ?_
      refine xi_bipush (pc' := 17) (v := (-2)) kc_50_15 rfl rfl ?_
      refine xi_virtual (mj := 12) (as := [.int (-2)]) (st1 := []) (lv0 := [(0, .ref 115), (1, .int (-2))]) kc_50_17 rfl rfl rfl rfl rfl eh15.1 (Nat.le_of_ble_eq_true rfl) (hJ _ _ _ _ (by decide)) (xm_le ml_12 rfl) rfl ?_
      refine xi_aload_n (pc' := 1) (x := 115) kc_12_0 rfl rfl ?_
      refine xi_getfield (pc' := 4) (v := .ref 140) kc_12_1 rfl rfl rfl eh15.1 rfl ?_
      refine xi_iload_n (pc' := 5) (x := (-2)) kc_12_4 rfl rfl ?_
      refine xi_ineg (pc' := 6) (v := 2) kc_12_5 rfl rfl ?_
      refine xi_dup2 (pc' := 7) kc_12_6 rfl ⟨rfl, rfl⟩ ?_
      obtain ⟨y25, A25, hy25, ry25⟩ := xk_arr K17.1 xD_140
      obtain ⟨v26, ev26, bv26, dv26⟩ := xj_get hy25 ry25 (i := 2) (by decide) (by decide)
      refine xi_iaload (pc' := 8) (v := v26) kc_12_7 rfl A25 (by decide) rfl (xi_in (by decide) (by rw [hy25]; decide)) ev26 ?_
      refine xi_iconst (pc' := 9) (v := 1) kc_12_8 rfl rfl ?_
      obtain ⟨v27, ev27⟩ : ∃ q : Int32, (v26 : Int32) + 1 = q := ⟨_, rfl⟩
      have rv27 := xc_rng v27
      refine xi_iadd (pc' := 10) (v := v27) kc_12_9 rfl ev27 ?_
      obtain ⟨y28, s28, hy28, ry28⟩ := xj_set (v := v27) hy25 ry25 2 (by first | omega | decide) (by first | omega | decide)
      refine xi_iastore (pc' := 11) (x' := y28) kc_12_10 rfl A25 rfl (xi_in (by decide) (by rw [hy25]; decide)) s28 (fun hh28 eh28 => ?_)
      have K29 := xk_pa K17 (xk_wa (by decide +kernel)) xD_140 hy28 ry28 eh28
      refine xi_iload_n (pc' := 12) (x := (-2)) kc_12_11 rfl rfl ?_
      refine xi_ireturn kc_12_12 mr_12 rfl ?_
      show xw J ov (d + 7) 50 (20, [(0, .ref 115), (1, .int x1)], [.int (-2)], hh28) _
      refine xi_ireturn kc_50_20 mr_50 rfl ?_
      have zcm2 : ((-2) : Int32).toInt = (-2) := by decide
      exact kk (-2) hh28 K29
    · refine xi_cmf (pc' := 10) kc_11_7 rfl (xc_gt_f (X := x1.toInt) (Y := 1) rfl (by decide) (by omega)) ?_
      refine xi_iconst (pc' := 11) (v := 1) kc_11_10 rfl rfl ?_
      refine xi_goto (pc' := 15) kc_11_11 rfl ?_
      refine xi_ireturn kc_11_15 mr_11 rfl ?_
      show xw J ov (d + 7) 50 (11, [(0, .ref 115), (1, .int x1)], [.int 1], hh16) _
      refine xi_ift (pc' := 21) kc_50_11 rfl rfl ?_
      refine xi_aload_n (pc' := 22) (x := 115) kc_50_21 rfl rfl ?_
      refine xi_virtual (mj := 43) (as := []) (st1 := []) (lv0 := [(0, .ref 115)]) kc_50_22 rfl rfl rfl rfl rfl eh15.1 (Nat.le_of_ble_eq_true rfl) (hJ _ _ _ _ (by decide)) (xm_le ml_43 rfl) rfl ?_
      refine mt_43_0 hJ hov1 hov2 (d := d)  K17.1 (fun hh31 K32 => ?_)
      have K33 := xk_tr K17 K32 (xsb_ok _ _ (by decide +kernel))
      obtain ⟨u34, u35, u36, u37, u38, u39, u40, u41, u42, u43, u44, u45, u46, bu34, bu35, bu36, bu37, bu38, bu39, bu40, bu41, bu42, bu43, bu44, bu45, bu46, A47⟩ := xq_115 K33.1
      have e48 : u2 = u35 := xk_eqi (q := 1) K32 (by decide +kernel) eh15.1 A47 rfl rfl
      subst e48
      have e49 : u5 = u38 := xk_eqi (q := 23) K32 (by decide +kernel) eh15.1 A47 rfl rfl
      subst e49
      have e50 : u8 = u41 := xk_eqi (q := 34) K32 (by decide +kernel) eh15.1 A47 rfl rfl
      subst e50
      show xw J ov (d + 7) 50 (25, [(0, .ref 115), (1, .int x1)], [], hh31) _
      refine xi_iconst (pc' := 26) (v := 0) kc_50_25 rfl rfl ?_
      refine xi_istore_n (pc' := 27) (lv' := [(2, .int 0), (0, .ref 115), (1, .int x1)]) kc_50_26 rfl rfl (xm_lt ml_50 rfl) ?_
      refine xi_bipush (pc' := 29) (v := 99) kc_50_27 rfl rfl ?_
      refine xi_istore_n (pc' := 30) (lv' := [(3, .int 99), (2, .int 0), (0, .ref 115), (1, .int x1)]) kc_50_29 rfl rfl (xm_lt ml_50 rfl) ?_
      refine xi_iconst (pc' := 31) (v := 0) kc_50_30 rfl rfl ?_
      refine xi_istore (pc' := 33) (lv' := [(4, .int 0), (3, .int 99), (2, .int 0), (0, .ref 115), (1, .int x1)]) kc_50_31 rfl rfl (xm_lt ml_50 rfl) ?_
      have zc0 : (0 : Int32).toInt = 0 := by decide
      have zc99 : (99 : Int32).toInt = 99 := by decide
      refine xw_lv (b := [(0, .ref 115), (1, .int x1), (2, .int 0), (3, .int 99), (4, .int 0)]) (lvS_cons (lvS_cons (lvS_cons (lvS_cons (lvS_cons (lvS_nil (show ([4, 3, 2, 0, 1] : List Nat).Nodup by decide)) rfl) rfl) rfl) rfl) rfl) ?_
      exact (lp_50_0 hJ hov1 hov2 (d := d) (hb := hh31) (fun r9 h9 K9 => kk r9 h9 (xk_tr K33 K9 (xsb_ok _ _ (by decide +kernel)))) 65) x1 0 99 0 hh31 (by omega) (by omega) (xk_re K33.1) (by omega)
set_option maxHeartbeats 4000000 in
theorem lp_53_0 {J : xe_J} {ov : List (List Int32)} (hJ : ∀ d mj as h, mj ≠ xe_loff → J d mj as h = none) (hov1 : ov[1]? = some [10, 0, 0, 0, 0, 0]) (hov2 : ov[2]? = some [99, 30, 50, 50, 1, 99999]) {d : Nat} {Q : Option Value → xe_H → Prop} {hb : xe_H} (kk : (∀ (r : Int32) (h' : xe_H), (0 ≤ r.toInt ∧ r.toInt ≤ 1) → xk xP_0 hb h' → Q (some (.int r)) h')) : ∀ m : Nat, (∀ (x1 : Int32) (x2 : Int32) (x3 : Int32) (h : xe_H), (0 ≤ x1.toInt ∧ x1.toInt ≤ 63) → (0 ≤ x2.toInt ∧ x2.toInt ≤ 1) → (0 ≤ x3.toInt ∧ x3.toInt ≤ 8) → xk xP_0 hb h → (-1) * x3.toInt + 8 < (m : Int) → xw J ov (d + 1) 53 (19, [(0, .ref 115), (1, .int x1), (2, .int x2), (3, .int x3)], [], h) Q) := by
  intro m
  induction m with
  | zero =>
    intro x1 x2 x3 h b1 b2 b3 K hm; exfalso; omega
  | succ m ih =>
    have i0 := ih
    intro x1 x2 x3 h b1 b2 b3 K hm
    refine xi_iload_n (pc' := 20) (x := x3) kc_53_19 rfl rfl ?_
    refine xi_aload_n (pc' := 21) (x := 115) kc_53_20 rfl rfl ?_
    obtain ⟨u1, u2, u3, u4, u5, u6, u7, u8, u9, u10, u11, u12, u13, bu1, bu2, bu3, bu4, bu5, bu6, bu7, bu8, bu9, bu10, bu11, bu12, bu13, A14⟩ := xq_115 K.1
    refine xi_getfield (pc' := 24) (v := .int u10) kc_53_21 rfl rfl rfl A14 rfl ?_
    by_cases c15 : u10.toInt ≤ x3.toInt
    · refine xi_cmt (pc' := 67) kc_53_24 rfl (xc_ge_t (X := x3.toInt) (Y := u10.toInt) rfl rfl (by omega)) ?_
      refine xi_iload_n (pc' := 68) (x := x2) kc_53_67 rfl rfl ?_
      by_cases c16 : x2.toInt = 0
      · have qx2 : x2 = 0 := xc_of (Eq.trans (by omega) (show (0 : Int) = (0 : Int32).toInt by decide))
        subst qx2
        refine xi_ireturn kc_53_68 mr_53 rfl ?_
        have zc0 : (0 : Int32).toInt = 0 := by decide
        exact kk 0 h (by omega) K
      have qx2 : x2 = 1 := xc_of (Eq.trans (by omega) (show (1 : Int) = (1 : Int32).toInt by decide))
      subst qx2
      refine xi_ireturn kc_53_68 mr_53 rfl ?_
      have zc1 : (1 : Int32).toInt = 1 := by decide
      exact kk 1 h (by omega) K
    · refine xi_cmf (pc' := 27) kc_53_24 rfl (xc_ge_f (X := x3.toInt) (Y := u10.toInt) rfl rfl (by omega)) ?_
      refine xi_iload_n (pc' := 28) (x := x2) kc_53_27 rfl rfl ?_
      by_cases c17 : x2.toInt = 0
      · refine xi_ift (pc' := 59) kc_53_28 rfl (xc_eq_t (X := x2.toInt) (Y := 0) rfl (by decide) (by omega)) ?_
        refine xi_iconst (pc' := 60) (v := 0) kc_53_59 rfl rfl ?_
        refine xi_istore_n (pc' := 61) (lv' := [(2, .int 0), (0, .ref 115), (1, .int x1), (3, .int x3)]) kc_53_60 rfl rfl (xm_lt ml_53 rfl) ?_
        obtain ⟨v18, ev18⟩ : ∃ q : Int32, x3 + 1 = q := ⟨_, rfl⟩
        have zv18 : v18.toInt = (x3.toInt + 1) := by rw [← ev18]; exact (xz_add (X := x3.toInt) (Y := 1) rfl (by decide) (by omega) (by omega)).trans (by omega)
        refine xi_iinc (pc' := 64) (x := x3) (v := v18) (lv' := [(3, .int v18), (2, .int 0), (0, .ref 115), (1, .int x1)]) kc_53_61 rfl rfl ev18 rfl (xm_lt ml_53 rfl) ?_
        refine xi_goto (pc' := 19) kc_53_64 rfl ?_
        have zc0 : (0 : Int32).toInt = 0 := by decide
        refine xw_lv (b := [(0, .ref 115), (1, .int x1), (2, .int 0), (3, .int v18)]) (lvS_cons (lvS_cons (lvS_cons (lvS_cons (lvS_nil (show ([3, 2, 0, 1] : List Nat).Nodup by decide)) rfl) rfl) rfl) rfl) ?_
        exact i0 x1 0 v18 h (by omega) (by omega) (by omega) K (by omega)
      · refine xi_iff (pc' := 31) kc_53_28 rfl (xc_eq_f (X := x2.toInt) (Y := 0) rfl (by decide) (by omega)) ?_
        refine xi_aload_n (pc' := 32) (x := 115) kc_53_31 rfl rfl ?_
        refine xi_getfield (pc' := 35) (v := .ref 154) kc_53_32 rfl rfl rfl A14 rfl ?_
        refine xi_iload_n (pc' := 36) (x := x3) kc_53_35 rfl rfl ?_
        obtain ⟨y19, A19, hy19, ry19⟩ := xk_arr K.1 xD_154
        obtain ⟨v20, ev20, bv20, dv20⟩ := xj_get hy19 ry19 (i := x3) (by omega) (by omega)
        refine xi_iaload (pc' := 37) (v := v20) kc_53_36 rfl A19 (by decide) rfl (xi_in (by omega) (by rw [hy19]; omega)) ev20 ?_
        by_cases c21 : v20.toInt = 0
        · refine xi_ift (pc' := 55) kc_53_37 rfl (xc_eq_t (X := v20.toInt) (Y := 0) rfl (by decide) (by omega)) ?_
          refine xi_iconst (pc' := 56) (v := 1) kc_53_55 rfl rfl ?_
          refine xi_goto (pc' := 60) kc_53_56 rfl ?_
          refine xi_istore_n (pc' := 61) (lv' := [(2, .int 1), (0, .ref 115), (1, .int x1), (3, .int x3)]) kc_53_60 rfl rfl (xm_lt ml_53 rfl) ?_
          obtain ⟨v22, ev22⟩ : ∃ q : Int32, x3 + 1 = q := ⟨_, rfl⟩
          have zv22 : v22.toInt = (x3.toInt + 1) := by rw [← ev22]; exact (xz_add (X := x3.toInt) (Y := 1) rfl (by decide) (by omega) (by omega)).trans (by omega)
          refine xi_iinc (pc' := 64) (x := x3) (v := v22) (lv' := [(3, .int v22), (2, .int 1), (0, .ref 115), (1, .int x1)]) kc_53_61 rfl rfl ev22 rfl (xm_lt ml_53 rfl) ?_
          refine xi_goto (pc' := 19) kc_53_64 rfl ?_
          have zc1 : (1 : Int32).toInt = 1 := by decide
          refine xw_lv (b := [(0, .ref 115), (1, .int x1), (2, .int 1), (3, .int v22)]) (lvS_cons (lvS_cons (lvS_cons (lvS_cons (lvS_nil (show ([3, 2, 0, 1] : List Nat).Nodup by decide)) rfl) rfl) rfl) rfl) ?_
          exact i0 x1 1 v22 h (by omega) (by omega) (by omega) K (by omega)
        · refine xi_iff (pc' := 40) kc_53_37 rfl (xc_eq_f (X := v20.toInt) (Y := 0) rfl (by decide) (by omega)) ?_
          refine xi_aload_n (pc' := 41) (x := 115) kc_53_40 rfl rfl ?_
          refine xi_getfield (pc' := 44) (v := .ref 154) kc_53_41 rfl rfl rfl A14 rfl ?_
          refine xi_iload_n (pc' := 45) (x := x3) kc_53_44 rfl rfl ?_
          refine xi_iaload (pc' := 46) (v := v20) kc_53_45 rfl A19 (by decide) rfl (xi_in (by omega) (by rw [hy19]; omega)) ev20 ?_
          refine xi_aload_n (pc' := 47) (x := 115) kc_53_46 rfl rfl ?_
          refine xi_iload_n (pc' := 48) (x := x3) kc_53_47 rfl rfl ?_
          refine xi_iload_n (pc' := 49) (x := x1) kc_53_48 rfl rfl ?_
          refine xi_virtual (mj := 54) (as := [.int x3, .int x1]) (st1 := [.int v20]) (lv0 := [(0, .ref 115), (1, .int x3), (2, .int x1)]) kc_53_49 rfl rfl rfl rfl rfl A14 (Nat.le_of_ble_eq_true rfl) (hJ _ _ _ _ (by decide)) (xm_le ml_54 rfl) rfl ?_
          refine xi_aload_n (pc' := 1) (x := 115) kc_54_0 rfl rfl ?_
          refine xi_getfield (pc' := 4) (v := .ref 152) kc_54_1 rfl rfl rfl A14 rfl ?_
          refine xi_iload_n (pc' := 5) (x := x3) kc_54_4 rfl rfl ?_
          obtain ⟨y23, A23, hy23, ry23⟩ := xk_arr K.1 xD_152
          obtain ⟨v24, ev24, bv24, dv24⟩ := xj_get hy23 ry23 (i := x3) (by omega) (by omega)
          refine xi_iaload (pc' := 6) (v := v24) kc_54_5 rfl A23 (by decide) rfl (xi_in (by omega) (by rw [hy23]; omega)) ev24 ?_
          refine xi_iload_n (pc' := 7) (x := x1) kc_54_6 rfl rfl ?_
          obtain ⟨v25, ev25⟩ : ∃ q : Int32, (v24 : Int32) &&& x1 = q := ⟨_, rfl⟩
          have rv25 := xc_rng v25
          refine xi_iand (pc' := 8) (v := v25) kc_54_7 rfl ev25 ?_
          by_cases c26 : v25.toInt = 0
          · refine xi_ift (pc' := 15) kc_54_8 rfl (xc_eq_t (X := v25.toInt) (Y := 0) rfl (by decide) (by omega)) ?_
            refine xi_iconst (pc' := 16) (v := 2) kc_54_15 rfl rfl ?_
            refine xi_ireturn kc_54_16 mr_54 rfl ?_
            show xw J ov (d + 1) 53 (52, [(0, .ref 115), (1, .int x1), (2, .int x2), (3, .int x3)], [.int 2, .int v20], h) _
            by_cases c27 : v20.toInt = 2
            · refine xi_cmf (pc' := 55) kc_53_52 rfl (xc_ne_f (X := v20.toInt) (Y := 2) rfl (by decide) (by omega)) ?_
              refine xi_iconst (pc' := 56) (v := 1) kc_53_55 rfl rfl ?_
              refine xi_goto (pc' := 60) kc_53_56 rfl ?_
              refine xi_istore_n (pc' := 61) (lv' := [(2, .int 1), (0, .ref 115), (1, .int x1), (3, .int x3)]) kc_53_60 rfl rfl (xm_lt ml_53 rfl) ?_
              obtain ⟨v28, ev28⟩ : ∃ q : Int32, x3 + 1 = q := ⟨_, rfl⟩
              have zv28 : v28.toInt = (x3.toInt + 1) := by rw [← ev28]; exact (xz_add (X := x3.toInt) (Y := 1) rfl (by decide) (by omega) (by omega)).trans (by omega)
              refine xi_iinc (pc' := 64) (x := x3) (v := v28) (lv' := [(3, .int v28), (2, .int 1), (0, .ref 115), (1, .int x1)]) kc_53_61 rfl rfl ev28 rfl (xm_lt ml_53 rfl) ?_
              refine xi_goto (pc' := 19) kc_53_64 rfl ?_
              have zc1 : (1 : Int32).toInt = 1 := by decide
              refine xw_lv (b := [(0, .ref 115), (1, .int x1), (2, .int 1), (3, .int v28)]) (lvS_cons (lvS_cons (lvS_cons (lvS_cons (lvS_nil (show ([3, 2, 0, 1] : List Nat).Nodup by decide)) rfl) rfl) rfl) rfl) ?_
              exact i0 x1 1 v28 h (by omega) (by omega) (by omega) K (by omega)
            · refine xi_cmt (pc' := 59) kc_53_52 rfl (xc_ne_t (X := v20.toInt) (Y := 2) rfl (by decide) (by omega)) ?_
              refine xi_iconst (pc' := 60) (v := 0) kc_53_59 rfl rfl ?_
              refine xi_istore_n (pc' := 61) (lv' := [(2, .int 0), (0, .ref 115), (1, .int x1), (3, .int x3)]) kc_53_60 rfl rfl (xm_lt ml_53 rfl) ?_
              obtain ⟨v29, ev29⟩ : ∃ q : Int32, x3 + 1 = q := ⟨_, rfl⟩
              have zv29 : v29.toInt = (x3.toInt + 1) := by rw [← ev29]; exact (xz_add (X := x3.toInt) (Y := 1) rfl (by decide) (by omega) (by omega)).trans (by omega)
              refine xi_iinc (pc' := 64) (x := x3) (v := v29) (lv' := [(3, .int v29), (2, .int 0), (0, .ref 115), (1, .int x1)]) kc_53_61 rfl rfl ev29 rfl (xm_lt ml_53 rfl) ?_
              refine xi_goto (pc' := 19) kc_53_64 rfl ?_
              have zc0 : (0 : Int32).toInt = 0 := by decide
              refine xw_lv (b := [(0, .ref 115), (1, .int x1), (2, .int 0), (3, .int v29)]) (lvS_cons (lvS_cons (lvS_cons (lvS_cons (lvS_nil (show ([3, 2, 0, 1] : List Nat).Nodup by decide)) rfl) rfl) rfl) rfl) ?_
              exact i0 x1 0 v29 h (by omega) (by omega) (by omega) K (by omega)
          · refine xi_iff (pc' := 11) kc_54_8 rfl (xc_eq_f (X := v25.toInt) (Y := 0) rfl (by decide) (by omega)) ?_
            refine xi_iconst (pc' := 12) (v := 1) kc_54_11 rfl rfl ?_
            refine xi_goto (pc' := 16) kc_54_12 rfl ?_
            refine xi_ireturn kc_54_16 mr_54 rfl ?_
            show xw J ov (d + 1) 53 (52, [(0, .ref 115), (1, .int x1), (2, .int x2), (3, .int x3)], [.int 1, .int v20], h) _
            by_cases c30 : v20.toInt = 1
            · refine xi_cmf (pc' := 55) kc_53_52 rfl (xc_ne_f (X := v20.toInt) (Y := 1) rfl (by decide) (by omega)) ?_
              refine xi_iconst (pc' := 56) (v := 1) kc_53_55 rfl rfl ?_
              refine xi_goto (pc' := 60) kc_53_56 rfl ?_
              refine xi_istore_n (pc' := 61) (lv' := [(2, .int 1), (0, .ref 115), (1, .int x1), (3, .int x3)]) kc_53_60 rfl rfl (xm_lt ml_53 rfl) ?_
              obtain ⟨v31, ev31⟩ : ∃ q : Int32, x3 + 1 = q := ⟨_, rfl⟩
              have zv31 : v31.toInt = (x3.toInt + 1) := by rw [← ev31]; exact (xz_add (X := x3.toInt) (Y := 1) rfl (by decide) (by omega) (by omega)).trans (by omega)
              refine xi_iinc (pc' := 64) (x := x3) (v := v31) (lv' := [(3, .int v31), (2, .int 1), (0, .ref 115), (1, .int x1)]) kc_53_61 rfl rfl ev31 rfl (xm_lt ml_53 rfl) ?_
              refine xi_goto (pc' := 19) kc_53_64 rfl ?_
              have zc1 : (1 : Int32).toInt = 1 := by decide
              refine xw_lv (b := [(0, .ref 115), (1, .int x1), (2, .int 1), (3, .int v31)]) (lvS_cons (lvS_cons (lvS_cons (lvS_cons (lvS_nil (show ([3, 2, 0, 1] : List Nat).Nodup by decide)) rfl) rfl) rfl) rfl) ?_
              exact i0 x1 1 v31 h (by omega) (by omega) (by omega) K (by omega)
            · refine xi_cmt (pc' := 59) kc_53_52 rfl (xc_ne_t (X := v20.toInt) (Y := 1) rfl (by decide) (by omega)) ?_
              refine xi_iconst (pc' := 60) (v := 0) kc_53_59 rfl rfl ?_
              refine xi_istore_n (pc' := 61) (lv' := [(2, .int 0), (0, .ref 115), (1, .int x1), (3, .int x3)]) kc_53_60 rfl rfl (xm_lt ml_53 rfl) ?_
              obtain ⟨v32, ev32⟩ : ∃ q : Int32, x3 + 1 = q := ⟨_, rfl⟩
              have zv32 : v32.toInt = (x3.toInt + 1) := by rw [← ev32]; exact (xz_add (X := x3.toInt) (Y := 1) rfl (by decide) (by omega) (by omega)).trans (by omega)
              refine xi_iinc (pc' := 64) (x := x3) (v := v32) (lv' := [(3, .int v32), (2, .int 0), (0, .ref 115), (1, .int x1)]) kc_53_61 rfl rfl ev32 rfl (xm_lt ml_53 rfl) ?_
              refine xi_goto (pc' := 19) kc_53_64 rfl ?_
              have zc0 : (0 : Int32).toInt = 0 := by decide
              refine xw_lv (b := [(0, .ref 115), (1, .int x1), (2, .int 0), (3, .int v32)]) (lvS_cons (lvS_cons (lvS_cons (lvS_cons (lvS_nil (show ([3, 2, 0, 1] : List Nat).Nodup by decide)) rfl) rfl) rfl) rfl) ?_
              exact i0 x1 0 v32 h (by omega) (by omega) (by omega) K (by omega)
set_option maxHeartbeats 4000000 in
theorem mt_53_0 {J : xe_J} {ov : List (List Int32)} (hJ : ∀ d mj as h, mj ≠ xe_loff → J d mj as h = none) (hov1 : ov[1]? = some [10, 0, 0, 0, 0, 0]) (hov2 : ov[2]? = some [99, 30, 50, 50, 1, 99999]) {d : Nat} {Q : Option Value → xe_H → Prop} {h : xe_H} {x1 : Int32} (T : xt h) (b1 : (0 ≤ x1.toInt ∧ x1.toInt ≤ 63)) (kk : (∀ (r : Int32) (h' : xe_H), (0 ≤ r.toInt ∧ r.toInt ≤ 1) → xk xP_0 h h' → Q (some (.int r)) h')) : xw J ov (d + 1) 53 (0, [(0, .ref 115), (1, .int x1)], [], h) Q := by
  have K : xk xP_0 h h := xk_re T
  refine xi_aload_n (pc' := 1) (x := 115) kc_53_0 rfl rfl ?_
  obtain ⟨u1, u2, u3, u4, u5, u6, u7, u8, u9, u10, u11, u12, u13, bu1, bu2, bu3, bu4, bu5, bu6, bu7, bu8, bu9, bu10, bu11, bu12, bu13, A14⟩ := xq_115 K.1
  refine xi_getfield (pc' := 4) (v := .ref 149) kc_53_1 rfl rfl rfl A14 rfl ?_
  refine xi_iload_n (pc' := 5) (x := x1) kc_53_4 rfl rfl ?_
  obtain ⟨y15, A15, hy15⟩ := xk_larr K.1 xD_149
  obtain ⟨v16, ev16⟩ : ∃ q : Int64, y15.getD (Int32.toNatClampNeg x1) 0 = q := ⟨_, rfl⟩
  refine xi_laload (pc' := 6) (v := v16) kc_53_5 rfl A15 rfl (xi_in (by omega) (by rw [hy15]; omega)) ev16 ?_
  refine xi_lconst (pc' := 7) (v := 0) kc_53_6 rfl rfl ?_
  obtain ⟨v17, ev17⟩ : ∃ q : Int32, lg_cmp v16 0 = q := ⟨_, rfl⟩
  have rv17 := xc_rng v17
  refine xi_lcmp (pc' := 8) (v := v17) kc_53_7 rfl ev17 ?_
  by_cases c18 : v17.toInt = 0
  · refine xi_iff (pc' := 11) kc_53_8 rfl (xc_ne_f (X := v17.toInt) (Y := 0) rfl (by decide) (by omega)) ?_
    refine xi_iconst (pc' := 12) (v := 1) kc_53_11 rfl rfl ?_
    refine xi_goto (pc' := 16) kc_53_12 rfl ?_
    refine xi_istore_n (pc' := 17) (lv' := [(2, .int 1), (0, .ref 115), (1, .int x1)]) kc_53_16 rfl rfl (xm_lt ml_53 rfl) ?_
    refine xi_iconst (pc' := 18) (v := 0) kc_53_17 rfl rfl ?_
    refine xi_istore_n (pc' := 19) (lv' := [(3, .int 0), (2, .int 1), (0, .ref 115), (1, .int x1)]) kc_53_18 rfl rfl (xm_lt ml_53 rfl) ?_
    have zc0 : (0 : Int32).toInt = 0 := by decide
    have zc1 : (1 : Int32).toInt = 1 := by decide
    refine xw_lv (b := [(0, .ref 115), (1, .int x1), (2, .int 1), (3, .int 0)]) (lvS_cons (lvS_cons (lvS_cons (lvS_cons (lvS_nil (show ([3, 2, 0, 1] : List Nat).Nodup by decide)) rfl) rfl) rfl) rfl) ?_
    exact (lp_53_0 hJ hov1 hov2 (d := d) (hb := h) (fun r9 h9 b9 K9 => kk r9 h9 b9 (xk_tr K K9 (xsb_ok _ _ (by decide +kernel)))) 9) x1 1 0 h (by omega) (by omega) (by omega) (xk_re K.1) (by omega)
  · have zv16c18 : v16 ≠ 0 := xj_lc ev17 (by omega)
    refine xi_ift (pc' := 15) kc_53_8 rfl (xc_ne_t (X := v17.toInt) (Y := 0) rfl (by decide) (by omega)) ?_
    refine xi_iconst (pc' := 16) (v := 0) kc_53_15 rfl rfl ?_
    refine xi_istore_n (pc' := 17) (lv' := [(2, .int 0), (0, .ref 115), (1, .int x1)]) kc_53_16 rfl rfl (xm_lt ml_53 rfl) ?_
    refine xi_iconst (pc' := 18) (v := 0) kc_53_17 rfl rfl ?_
    refine xi_istore_n (pc' := 19) (lv' := [(3, .int 0), (2, .int 0), (0, .ref 115), (1, .int x1)]) kc_53_18 rfl rfl (xm_lt ml_53 rfl) ?_
    have zc0 : (0 : Int32).toInt = 0 := by decide
    refine xw_lv (b := [(0, .ref 115), (1, .int x1), (2, .int 0), (3, .int 0)]) (lvS_cons (lvS_cons (lvS_cons (lvS_cons (lvS_nil (show ([3, 2, 0, 1] : List Nat).Nodup by decide)) rfl) rfl) rfl) rfl) ?_
    exact (lp_53_0 hJ hov1 hov2 (d := d) (hb := h) (fun r9 h9 b9 K9 => kk r9 h9 b9 (xk_tr K K9 (xsb_ok _ _ (by decide +kernel)))) 9) x1 0 0 h (by omega) (by omega) (by omega) (xk_re K.1) (by omega)
set_option maxHeartbeats 4000000 in
theorem lp_52_0 {J : xe_J} {ov : List (List Int32)} (hJ : ∀ d mj as h, mj ≠ xe_loff → J d mj as h = none) (hov1 : ov[1]? = some [10, 0, 0, 0, 0, 0]) (hov2 : ov[2]? = some [99, 30, 50, 50, 1, 99999]) {d : Nat} {Q : Option Value → xe_H → Prop} {hb : xe_H} (kk : (∀ (r : Int32) (h' : xe_H), xk xP_0 hb h' → Q (some (.int r)) h')) : ∀ m : Nat, (∀ (x1 : Int32) (x2 : Int32) (h : xe_H), (0 ≤ x2.toInt ∧ x2.toInt ≤ 64) → xk xP_0 hb h → (-1) * x2.toInt + 64 < (m : Int) → xw J ov (d + 7) 52 (8, [(0, .ref 115), (1, .int x1), (2, .int x2)], [], h) Q) := by
  intro m
  induction m with
  | zero =>
    intro x1 x2 h b2 K hm; have rx1 := xc_rng x1; exfalso; omega
  | succ m ih =>
    have i0 := ih
    intro x1 x2 h b2 K hm
    have rx1 := xc_rng x1
    refine xi_iload_n (pc' := 9) (x := x2) kc_52_8 rfl rfl ?_
    refine xi_aload_n (pc' := 10) (x := 115) kc_52_9 rfl rfl ?_
    obtain ⟨u1, u2, u3, u4, u5, u6, u7, u8, u9, u10, u11, u12, u13, bu1, bu2, bu3, bu4, bu5, bu6, bu7, bu8, bu9, bu10, bu11, bu12, bu13, A14⟩ := xq_115 K.1
    refine xi_virtual (mj := 42) (as := []) (st1 := [.int x2]) (lv0 := [(0, .ref 115)]) kc_52_10 rfl rfl rfl rfl rfl A14 (Nat.le_of_ble_eq_true rfl) (hJ _ _ _ _ (by decide)) (xm_le ml_42 rfl) rfl ?_
    refine xi_iconst (pc' := 1) (v := 1) kc_42_0 rfl rfl ?_
    refine xi_aload_n (pc' := 2) (x := 115) kc_42_1 rfl rfl ?_
    refine xi_getfield (pc' := 5) (v := .int u5) kc_42_2 rfl rfl rfl A14 rfl ?_
    refine xi_bipush (pc' := 7) (v := 6) kc_42_5 rfl rfl ?_
    by_cases c15 : 6 ≤ u5.toInt
    · refine xi_cmt (pc' := 17) kc_42_7 rfl (xc_ge_t (X := u5.toInt) (Y := 6) rfl (by decide) (by omega)) ?_
      refine xi_bipush (pc' := 19) (v := 6) kc_42_17 rfl rfl ?_
      refine xi_ishl (pc' := 20) (v := 64) kc_42_19 rfl rfl ?_
      refine xi_ireturn kc_42_20 mr_42 rfl ?_
      show xw J ov (d + 7) 52 (13, [(0, .ref 115), (1, .int x1), (2, .int x2)], [.int 64, .int x2], h) _
      by_cases c16 : 64 ≤ x2.toInt
      · refine xi_cmt (pc' := 38) kc_52_13 rfl (xc_ge_t (X := x2.toInt) (Y := 64) rfl (by decide) (by omega)) ?_
        refine xi_iload_n (pc' := 39) (x := x1) kc_52_38 rfl rfl ?_
        refine xi_ireturn kc_52_39 mr_52 rfl ?_
        exact kk x1 h K
      · refine xi_cmf (pc' := 16) kc_52_13 rfl (xc_ge_f (X := x2.toInt) (Y := 64) rfl (by decide) (by omega)) ?_
        refine xi_iload_n (pc' := 17) (x := x1) kc_52_16 rfl rfl ?_
        refine xi_aload_n (pc' := 18) (x := 115) kc_52_17 rfl rfl ?_
        refine xi_iload_n (pc' := 19) (x := x2) kc_52_18 rfl rfl ?_
        refine xi_virtual (mj := 53) (as := [.int x2]) (st1 := [.int x1]) (lv0 := [(0, .ref 115), (1, .int x2)]) kc_52_19 rfl rfl rfl rfl rfl A14 (Nat.le_of_ble_eq_true rfl) (hJ _ _ _ _ (by decide)) (xm_le ml_53 rfl) rfl ?_
        refine mt_53_0 hJ hov1 hov2 (d := d + 5) (x1 := x2) K.1 (by first | omega | decide) (fun r17 hh18 br17 K19 => ?_)
        have K20 := xk_tr K K19 (xsb_ok _ _ (by decide +kernel))
        obtain ⟨u21, u22, u23, u24, u25, u26, u27, u28, u29, u30, u31, u32, u33, bu21, bu22, bu23, bu24, bu25, bu26, bu27, bu28, bu29, bu30, bu31, bu32, bu33, A34⟩ := xq_115 K20.1
        have e35 : u2 = u22 := xk_eqi (q := 1) K19 (by decide +kernel) A14 A34 rfl rfl
        subst e35
        have e36 : u5 = u25 := xk_eqi (q := 23) K19 (by decide +kernel) A14 A34 rfl rfl
        subst e36
        have e37 : u8 = u28 := xk_eqi (q := 34) K19 (by decide +kernel) A14 A34 rfl rfl
        subst e37
        have e38 : u6 = u26 := xk_eqi (q := 32) K19 (by decide +kernel) A14 A34 rfl rfl
        subst e38
        show xw J ov (d + 7) 52 (22, [(0, .ref 115), (1, .int x1), (2, .int x2)], [.int r17, .int x1], hh18) _
        by_cases c39 : r17.toInt = 0
        · refine xi_ift (pc' := 29) kc_52_22 rfl (xc_eq_t (X := r17.toInt) (Y := 0) rfl (by decide) (by omega)) ?_
          refine xi_iconst (pc' := 30) (v := 0) kc_52_29 rfl rfl ?_
          obtain ⟨v40, ev40⟩ : ∃ q : Int32, x1 + 0 = q := ⟨_, rfl⟩
          have zv40 : v40.toInt = x1.toInt := by rw [← ev40]; exact (xz_add (X := x1.toInt) (Y := 0) rfl (by decide) (by omega) (by omega)).trans (by omega)
          refine xi_iadd (pc' := 31) (v := v40) kc_52_30 rfl ev40 ?_
          refine xi_istore_n (pc' := 32) (lv' := [(1, .int v40), (0, .ref 115), (2, .int x2)]) kc_52_31 rfl rfl (xm_lt ml_52 rfl) ?_
          obtain ⟨v41, ev41⟩ : ∃ q : Int32, x2 + 1 = q := ⟨_, rfl⟩
          have zv41 : v41.toInt = (x2.toInt + 1) := by rw [← ev41]; exact (xz_add (X := x2.toInt) (Y := 1) rfl (by decide) (by omega) (by omega)).trans (by omega)
          refine xi_iinc (pc' := 35) (x := x2) (v := v41) (lv' := [(2, .int v41), (1, .int v40), (0, .ref 115)]) kc_52_32 rfl rfl ev41 rfl (xm_lt ml_52 rfl) ?_
          refine xi_goto (pc' := 8) kc_52_35 rfl ?_
          refine xw_lv (b := [(0, .ref 115), (1, .int v40), (2, .int v41)]) (lvS_cons (lvS_cons (lvS_cons (lvS_nil (show ([2, 1, 0] : List Nat).Nodup by decide)) rfl) rfl) rfl) ?_
          exact i0 v40 v41 hh18 (by omega) K20 (by omega)
        · refine xi_iff (pc' := 25) kc_52_22 rfl (xc_eq_f (X := r17.toInt) (Y := 0) rfl (by decide) (by omega)) ?_
          refine xi_iconst (pc' := 26) (v := 1) kc_52_25 rfl rfl ?_
          refine xi_goto (pc' := 30) kc_52_26 rfl ?_
          obtain ⟨v42, ev42⟩ : ∃ q : Int32, (x1 : Int32) + 1 = q := ⟨_, rfl⟩
          have rv42 := xc_rng v42
          refine xi_iadd (pc' := 31) (v := v42) kc_52_30 rfl ev42 ?_
          refine xi_istore_n (pc' := 32) (lv' := [(1, .int v42), (0, .ref 115), (2, .int x2)]) kc_52_31 rfl rfl (xm_lt ml_52 rfl) ?_
          obtain ⟨v43, ev43⟩ : ∃ q : Int32, x2 + 1 = q := ⟨_, rfl⟩
          have zv43 : v43.toInt = (x2.toInt + 1) := by rw [← ev43]; exact (xz_add (X := x2.toInt) (Y := 1) rfl (by decide) (by omega) (by omega)).trans (by omega)
          refine xi_iinc (pc' := 35) (x := x2) (v := v43) (lv' := [(2, .int v43), (1, .int v42), (0, .ref 115)]) kc_52_32 rfl rfl ev43 rfl (xm_lt ml_52 rfl) ?_
          refine xi_goto (pc' := 8) kc_52_35 rfl ?_
          refine xw_lv (b := [(0, .ref 115), (1, .int v42), (2, .int v43)]) (lvS_cons (lvS_cons (lvS_cons (lvS_nil (show ([2, 1, 0] : List Nat).Nodup by decide)) rfl) rfl) rfl) ?_
          exact i0 v42 v43 hh18 (by omega) K20 (by omega)
    · refine xi_cmf (pc' := 10) kc_42_7 rfl (xc_ge_f (X := u5.toInt) (Y := 6) rfl (by decide) (by omega)) ?_
      refine xi_aload_n (pc' := 11) (x := 115) kc_42_10 rfl rfl ?_
      refine xi_getfield (pc' := 14) (v := .int u5) kc_42_11 rfl rfl rfl A14 rfl ?_
      refine xi_goto (pc' := 19) kc_42_14 rfl ?_
      obtain ⟨v44, ev44⟩ : ∃ q : Int32, (1 : Int32) <<< (u5 &&& 31) = q := ⟨_, rfl⟩
      have rv44 := xc_rng v44
      have bv44 : 1 ≤ v44.toInt ∧ v44.toInt ≤ 64 := by rw [← ev44]; exact xj_shl6 (by omega) (by omega)
      refine xi_ishl (pc' := 20) (v := v44) kc_42_19 rfl ev44 ?_
      refine xi_ireturn kc_42_20 mr_42 rfl ?_
      show xw J ov (d + 7) 52 (13, [(0, .ref 115), (1, .int x1), (2, .int x2)], [.int v44, .int x2], h) _
      by_cases c45 : v44.toInt ≤ x2.toInt
      · refine xi_cmt (pc' := 38) kc_52_13 rfl (xc_ge_t (X := x2.toInt) (Y := v44.toInt) rfl rfl (by omega)) ?_
        refine xi_iload_n (pc' := 39) (x := x1) kc_52_38 rfl rfl ?_
        refine xi_ireturn kc_52_39 mr_52 rfl ?_
        exact kk x1 h K
      · refine xi_cmf (pc' := 16) kc_52_13 rfl (xc_ge_f (X := x2.toInt) (Y := v44.toInt) rfl rfl (by omega)) ?_
        refine xi_iload_n (pc' := 17) (x := x1) kc_52_16 rfl rfl ?_
        refine xi_aload_n (pc' := 18) (x := 115) kc_52_17 rfl rfl ?_
        refine xi_iload_n (pc' := 19) (x := x2) kc_52_18 rfl rfl ?_
        refine xi_virtual (mj := 53) (as := [.int x2]) (st1 := [.int x1]) (lv0 := [(0, .ref 115), (1, .int x2)]) kc_52_19 rfl rfl rfl rfl rfl A14 (Nat.le_of_ble_eq_true rfl) (hJ _ _ _ _ (by decide)) (xm_le ml_53 rfl) rfl ?_
        refine mt_53_0 hJ hov1 hov2 (d := d + 5) (x1 := x2) K.1 (by first | omega | decide) (fun r46 hh47 br46 K48 => ?_)
        have K49 := xk_tr K K48 (xsb_ok _ _ (by decide +kernel))
        obtain ⟨u50, u51, u52, u53, u54, u55, u56, u57, u58, u59, u60, u61, u62, bu50, bu51, bu52, bu53, bu54, bu55, bu56, bu57, bu58, bu59, bu60, bu61, bu62, A63⟩ := xq_115 K49.1
        have e64 : u2 = u51 := xk_eqi (q := 1) K48 (by decide +kernel) A14 A63 rfl rfl
        subst e64
        have e65 : u5 = u54 := xk_eqi (q := 23) K48 (by decide +kernel) A14 A63 rfl rfl
        subst e65
        have e66 : u8 = u57 := xk_eqi (q := 34) K48 (by decide +kernel) A14 A63 rfl rfl
        subst e66
        have e67 : u6 = u55 := xk_eqi (q := 32) K48 (by decide +kernel) A14 A63 rfl rfl
        subst e67
        show xw J ov (d + 7) 52 (22, [(0, .ref 115), (1, .int x1), (2, .int x2)], [.int r46, .int x1], hh47) _
        by_cases c68 : r46.toInt = 0
        · refine xi_ift (pc' := 29) kc_52_22 rfl (xc_eq_t (X := r46.toInt) (Y := 0) rfl (by decide) (by omega)) ?_
          refine xi_iconst (pc' := 30) (v := 0) kc_52_29 rfl rfl ?_
          obtain ⟨v69, ev69⟩ : ∃ q : Int32, x1 + 0 = q := ⟨_, rfl⟩
          have zv69 : v69.toInt = x1.toInt := by rw [← ev69]; exact (xz_add (X := x1.toInt) (Y := 0) rfl (by decide) (by omega) (by omega)).trans (by omega)
          refine xi_iadd (pc' := 31) (v := v69) kc_52_30 rfl ev69 ?_
          refine xi_istore_n (pc' := 32) (lv' := [(1, .int v69), (0, .ref 115), (2, .int x2)]) kc_52_31 rfl rfl (xm_lt ml_52 rfl) ?_
          obtain ⟨v70, ev70⟩ : ∃ q : Int32, x2 + 1 = q := ⟨_, rfl⟩
          have zv70 : v70.toInt = (x2.toInt + 1) := by rw [← ev70]; exact (xz_add (X := x2.toInt) (Y := 1) rfl (by decide) (by omega) (by omega)).trans (by omega)
          refine xi_iinc (pc' := 35) (x := x2) (v := v70) (lv' := [(2, .int v70), (1, .int v69), (0, .ref 115)]) kc_52_32 rfl rfl ev70 rfl (xm_lt ml_52 rfl) ?_
          refine xi_goto (pc' := 8) kc_52_35 rfl ?_
          refine xw_lv (b := [(0, .ref 115), (1, .int v69), (2, .int v70)]) (lvS_cons (lvS_cons (lvS_cons (lvS_nil (show ([2, 1, 0] : List Nat).Nodup by decide)) rfl) rfl) rfl) ?_
          exact i0 v69 v70 hh47 (by omega) K49 (by omega)
        · refine xi_iff (pc' := 25) kc_52_22 rfl (xc_eq_f (X := r46.toInt) (Y := 0) rfl (by decide) (by omega)) ?_
          refine xi_iconst (pc' := 26) (v := 1) kc_52_25 rfl rfl ?_
          refine xi_goto (pc' := 30) kc_52_26 rfl ?_
          obtain ⟨v71, ev71⟩ : ∃ q : Int32, (x1 : Int32) + 1 = q := ⟨_, rfl⟩
          have rv71 := xc_rng v71
          refine xi_iadd (pc' := 31) (v := v71) kc_52_30 rfl ev71 ?_
          refine xi_istore_n (pc' := 32) (lv' := [(1, .int v71), (0, .ref 115), (2, .int x2)]) kc_52_31 rfl rfl (xm_lt ml_52 rfl) ?_
          obtain ⟨v72, ev72⟩ : ∃ q : Int32, x2 + 1 = q := ⟨_, rfl⟩
          have zv72 : v72.toInt = (x2.toInt + 1) := by rw [← ev72]; exact (xz_add (X := x2.toInt) (Y := 1) rfl (by decide) (by omega) (by omega)).trans (by omega)
          refine xi_iinc (pc' := 35) (x := x2) (v := v72) (lv' := [(2, .int v72), (1, .int v71), (0, .ref 115)]) kc_52_32 rfl rfl ev72 rfl (xm_lt ml_52 rfl) ?_
          refine xi_goto (pc' := 8) kc_52_35 rfl ?_
          refine xw_lv (b := [(0, .ref 115), (1, .int v71), (2, .int v72)]) (lvS_cons (lvS_cons (lvS_cons (lvS_nil (show ([2, 1, 0] : List Nat).Nodup by decide)) rfl) rfl) rfl) ?_
          exact i0 v71 v72 hh47 (by omega) K49 (by omega)
set_option maxHeartbeats 4000000 in
theorem mt_52_0 {J : xe_J} {ov : List (List Int32)} (hJ : ∀ d mj as h, mj ≠ xe_loff → J d mj as h = none) (hov1 : ov[1]? = some [10, 0, 0, 0, 0, 0]) (hov2 : ov[2]? = some [99, 30, 50, 50, 1, 99999]) {d : Nat} {Q : Option Value → xe_H → Prop} {h : xe_H} (T : xt h) (kk : (∀ (r : Int32) (h' : xe_H), xk xP_17 h h' → Q (some (.int r)) h')) : xw J ov (d + 7) 52 (0, [(0, .ref 115)], [], h) Q := by
  have K : xk xP_17 h h := xk_re T
  refine xi_aload_n (pc' := 1) (x := 115) kc_52_0 rfl rfl ?_
  obtain ⟨u1, u2, u3, u4, u5, u6, u7, u8, u9, u10, u11, u12, u13, bu1, bu2, bu3, bu4, bu5, bu6, bu7, bu8, bu9, bu10, bu11, bu12, bu13, A14⟩ := xq_115 K.1
  refine xi_virtual (mj := 43) (as := []) (st1 := []) (lv0 := [(0, .ref 115)]) kc_52_1 rfl rfl rfl rfl rfl A14 (Nat.le_of_ble_eq_true rfl) (hJ _ _ _ _ (by decide)) (xm_le ml_43 rfl) rfl ?_
  refine mt_43_0 hJ hov1 hov2 (d := d)  K.1 (fun hh16 K17 => ?_)
  have K18 := xk_tr K K17 (xsb_ok _ _ (by decide +kernel))
  obtain ⟨u19, u20, u21, u22, u23, u24, u25, u26, u27, u28, u29, u30, u31, bu19, bu20, bu21, bu22, bu23, bu24, bu25, bu26, bu27, bu28, bu29, bu30, bu31, A32⟩ := xq_115 K18.1
  have e33 : u2 = u20 := xk_eqi (q := 1) K17 (by decide +kernel) A14 A32 rfl rfl
  subst e33
  have e34 : u5 = u23 := xk_eqi (q := 23) K17 (by decide +kernel) A14 A32 rfl rfl
  subst e34
  have e35 : u8 = u26 := xk_eqi (q := 34) K17 (by decide +kernel) A14 A32 rfl rfl
  subst e35
  show xw J ov (d + 7) 52 (4, [(0, .ref 115)], [], hh16) _
  refine xi_iconst (pc' := 5) (v := 0) kc_52_4 rfl rfl ?_
  refine xi_istore_n (pc' := 6) (lv' := [(1, .int 0), (0, .ref 115)]) kc_52_5 rfl rfl (xm_lt ml_52 rfl) ?_
  refine xi_iconst (pc' := 7) (v := 0) kc_52_6 rfl rfl ?_
  refine xi_istore_n (pc' := 8) (lv' := [(2, .int 0), (1, .int 0), (0, .ref 115)]) kc_52_7 rfl rfl (xm_lt ml_52 rfl) ?_
  have zc0 : (0 : Int32).toInt = 0 := by decide
  refine xw_lv (b := [(0, .ref 115), (1, .int 0), (2, .int 0)]) (lvS_cons (lvS_cons (lvS_cons (lvS_nil (show ([2, 1, 0] : List Nat).Nodup by decide)) rfl) rfl) rfl) ?_
  exact (lp_52_0 hJ hov1 hov2 (d := d) (hb := hh16) (fun r9 h9 K9 => kk r9 h9 (xk_tr K18 K9 (xsb_ok _ _ (by decide +kernel)))) 65) 0 0 hh16 (by omega) (xk_re K18.1) (by omega)
set_option maxHeartbeats 4000000 in
theorem mt_51_0 {J : xe_J} {ov : List (List Int32)} (hJ : ∀ d mj as h, mj ≠ xe_loff → J d mj as h = none) (hov1 : ov[1]? = some [10, 0, 0, 0, 0, 0]) (hov2 : ov[2]? = some [99, 30, 50, 50, 1, 99999]) {d : Nat} {Q : Option Value → xe_H → Prop} {h : xe_H} (T : xt h) (kk : (∀ (r : Int32) (h' : xe_H), xk xP_17 h h' → Q (some (.int r)) h')) : xw J ov (d + 8) 51 (0, [(0, .ref 115)], [], h) Q := by
  have K : xk xP_17 h h := xk_re T
  refine xi_aload_n (pc' := 1) (x := 115) kc_51_0 rfl rfl ?_
  refine xi_iconst (pc' := 2) (v := 0) kc_51_1 rfl rfl ?_
  obtain ⟨u1, u2, u3, u4, u5, u6, u7, u8, u9, u10, u11, u12, u13, bu1, bu2, bu3, bu4, bu5, bu6, bu7, bu8, bu9, bu10, bu11, bu12, bu13, A14⟩ := xq_115 K.1
  refine xi_putfield (pc' := 5) (fs' := [.int 0, .int u2, .ref 116, .ref 117, .ref 118, .ref 119, .ref 120, .ref 121, .ref 122, .ref 123, .ref 124, .ref 125, .ref 126, .ref 127, .ref 128, .ref 129, .int u3, .ref 130, .int u4, .ref 131, .ref 132, .ref 133, .ref 134, .int u5, .ref 135, .ref 136, .ref 137, .ref 138, .ref 139, .ref 140, .ref 141, .ref 142, .int u6, .int u7, .int u8, .ref 143, .ref 144, .ref 145, .ref 146, .ref 147, .ref 148, .int u9, .ref 149, .ref 150, .ref 151, .int u10, .ref 152, .ref 153, .ref 154, .ref 155, .ref 156, .ref 157, .ref 158, .ref 159, .int u11, .ref 160, .int u12, .ref 161, .ref 162, .ref 163, .ref 164, .int u13, .ref 165, .ref 166]) kc_51_2 rfl rfl rfl A14 rfl rfl rfl (Nat.le_of_ble_eq_true rfl) rfl (fun hh16 eh15 => ?_)
  have K17 := xk_pf (k := 0) (v := 0) K (xk_wf (by decide +kernel)) xD_115 A14 rfl (by first | omega | decide) (by first | omega | decide) eh15 rfl
  refine xi_aload_n (pc' := 6) (x := 115) kc_51_5 rfl rfl ?_
  refine xi_virtual (mj := 52) (as := []) (st1 := []) (lv0 := [(0, .ref 115)]) kc_51_6 rfl rfl rfl rfl rfl eh15.1 (Nat.le_of_ble_eq_true rfl) (hJ _ _ _ _ (by decide)) (xm_le ml_52 rfl) rfl ?_
  refine mt_52_0 hJ hov1 hov2 (d := d)  K17.1 (fun r18 hh19 K20 => ?_)
  have br18 := xc_rng r18
  have K21 := xk_tr K17 K20 (xsb_ok _ _ (by decide +kernel))
  obtain ⟨u22, u23, u24, u25, u26, u27, u28, u29, u30, u31, u32, u33, u34, bu22, bu23, bu24, bu25, bu26, bu27, bu28, bu29, bu30, bu31, bu32, bu33, bu34, A35⟩ := xq_115 K21.1
  have e36 : u2 = u23 := xk_eqi (q := 1) K20 (by decide +kernel) eh15.1 A35 rfl rfl
  subst e36
  have e37 : u5 = u26 := xk_eqi (q := 23) K20 (by decide +kernel) eh15.1 A35 rfl rfl
  subst e37
  have e38 : u8 = u29 := xk_eqi (q := 34) K20 (by decide +kernel) eh15.1 A35 rfl rfl
  subst e38
  show xw J ov (d + 8) 51 (9, [(0, .ref 115)], [.int r18], hh19) _
  refine xi_ireturn kc_51_9 mr_51 rfl ?_
  exact kk r18 hh19 K21
set_option maxHeartbeats 4000000 in
theorem mt_55_0 {J : xe_J} {ov : List (List Int32)} (hJ : ∀ d mj as h, mj ≠ xe_loff → J d mj as h = none) (hov1 : ov[1]? = some [10, 0, 0, 0, 0, 0]) (hov2 : ov[2]? = some [99, 30, 50, 50, 1, 99999]) {d : Nat} {Q : Option Value → xe_H → Prop} {h : xe_H} {x1 : Int32} {x2 : Int32} (T : xt h) (kk : (∀ (r : Int32) (h' : xe_H), ((-6) ≤ r.toInt ∧ r.toInt ≤ 7) → xk xP_0 h h' → Q (some (.int r)) h')) : xw J ov (d + 1) 55 (0, [(0, .ref 115), (1, .int x1), (2, .int x2)], [], h) Q := by
  have K : xk xP_0 h h := xk_re T
  have rx1 := xc_rng x1
  have rx2 := xc_rng x2
  refine xi_aload_n (pc' := 1) (x := 115) kc_55_0 rfl rfl ?_
  refine xi_iconst (pc' := 2) (v := 0) kc_55_1 rfl rfl ?_
  obtain ⟨u1, u2, u3, u4, u5, u6, u7, u8, u9, u10, u11, u12, u13, bu1, bu2, bu3, bu4, bu5, bu6, bu7, bu8, bu9, bu10, bu11, bu12, bu13, A14⟩ := xq_115 K.1
  refine xi_putfield (pc' := 5) (fs' := [.int 0, .int u2, .ref 116, .ref 117, .ref 118, .ref 119, .ref 120, .ref 121, .ref 122, .ref 123, .ref 124, .ref 125, .ref 126, .ref 127, .ref 128, .ref 129, .int u3, .ref 130, .int u4, .ref 131, .ref 132, .ref 133, .ref 134, .int u5, .ref 135, .ref 136, .ref 137, .ref 138, .ref 139, .ref 140, .ref 141, .ref 142, .int u6, .int u7, .int u8, .ref 143, .ref 144, .ref 145, .ref 146, .ref 147, .ref 148, .int u9, .ref 149, .ref 150, .ref 151, .int u10, .ref 152, .ref 153, .ref 154, .ref 155, .ref 156, .ref 157, .ref 158, .ref 159, .int u11, .ref 160, .int u12, .ref 161, .ref 162, .ref 163, .ref 164, .int u13, .ref 165, .ref 166]) kc_55_2 rfl rfl rfl A14 rfl rfl rfl (Nat.le_of_ble_eq_true rfl) rfl (fun hh16 eh15 => ?_)
  have K17 := xk_pf (k := 0) (v := 0) K (xk_wf (by decide +kernel)) xD_115 A14 rfl (by first | omega | decide) (by first | omega | decide) eh15 rfl
  refine xi_iload_n (pc' := 6) (x := x1) kc_55_5 rfl rfl ?_
  refine xi_iconst (pc' := 7) (v := 0) kc_55_6 rfl rfl ?_
  refine xi_bipush (pc' := 9) (v := 63) kc_55_7 rfl rfl ?_
  refine xi_static (mj := 11) (as := [.int x1, .int 0, .int 63]) (st1 := []) (lv0 := [(0, .int x1), (1, .int 0), (2, .int 63)]) kc_55_9 rfl rfl (Nat.le_of_ble_eq_true rfl) rfl rfl (Nat.le_of_ble_eq_true rfl) (hJ _ _ _ _ (by decide)) (xm_le ml_11 rfl) rfl ?_
  refine xi_iload_n (pc' := 1) (x := x1) kc_11_0 rfl rfl ?_
  refine xi_iload_n (pc' := 2) (x := 0) kc_11_1 rfl rfl ?_
  by_cases c18 : x1.toInt < 0
  · refine xi_cmt (pc' := 14) kc_11_2 rfl (xc_lt_t (X := x1.toInt) (Y := 0) rfl (by decide) (by omega)) ?_
    refine xi_iconst (pc' := 15) (v := 0) kc_11_14 rfl rfl ?_
    refine xi_ireturn kc_11_15 mr_11 rfl ?_
    show xw J ov (d + 1) 55 (12, [(0, .ref 115), (1, .int x1), (2, .int x2)], [.int 0], hh16) _
    refine xi_iff (pc' := 15) kc_55_12 rfl rfl ?_
    refine xi_aload_n (pc' := 16) (x := 115) kc_55_15 rfl rfl ?_
    refine xi_bipush (pc' := 18) (v := (-2)) kc_55_16 rfl rfl ?_
    refine xi_virtual (mj := 12) (as := [.int (-2)]) (st1 := []) (lv0 := [(0, .ref 115), (1, .int (-2))]) kc_55_18 rfl rfl rfl rfl rfl eh15.1 (Nat.le_of_ble_eq_true rfl) (hJ _ _ _ _ (by decide)) (xm_le ml_12 rfl) rfl ?_
    refine xi_aload_n (pc' := 1) (x := 115) kc_12_0 rfl rfl ?_
    refine xi_getfield (pc' := 4) (v := .ref 140) kc_12_1 rfl rfl rfl eh15.1 rfl ?_
    refine xi_iload_n (pc' := 5) (x := (-2)) kc_12_4 rfl rfl ?_
    refine xi_ineg (pc' := 6) (v := 2) kc_12_5 rfl rfl ?_
    refine xi_dup2 (pc' := 7) kc_12_6 rfl ⟨rfl, rfl⟩ ?_
    obtain ⟨y19, A19, hy19, ry19⟩ := xk_arr K17.1 xD_140
    obtain ⟨v20, ev20, bv20, dv20⟩ := xj_get hy19 ry19 (i := 2) (by decide) (by decide)
    refine xi_iaload (pc' := 8) (v := v20) kc_12_7 rfl A19 (by decide) rfl (xi_in (by decide) (by rw [hy19]; decide)) ev20 ?_
    refine xi_iconst (pc' := 9) (v := 1) kc_12_8 rfl rfl ?_
    obtain ⟨v21, ev21⟩ : ∃ q : Int32, (v20 : Int32) + 1 = q := ⟨_, rfl⟩
    have rv21 := xc_rng v21
    refine xi_iadd (pc' := 10) (v := v21) kc_12_9 rfl ev21 ?_
    obtain ⟨y22, s22, hy22, ry22⟩ := xj_set (v := v21) hy19 ry19 2 (by first | omega | decide) (by first | omega | decide)
    refine xi_iastore (pc' := 11) (x' := y22) kc_12_10 rfl A19 rfl (xi_in (by decide) (by rw [hy19]; decide)) s22 (fun hh22 eh22 => ?_)
    have K23 := xk_pa K17 (xk_wa (by decide +kernel)) xD_140 hy22 ry22 eh22
    refine xi_iload_n (pc' := 12) (x := (-2)) kc_12_11 rfl rfl ?_
    refine xi_ireturn kc_12_12 mr_12 rfl ?_
    show xw J ov (d + 1) 55 (21, [(0, .ref 115), (1, .int x1), (2, .int x2)], [.int (-2)], hh22) _
    refine xi_ireturn kc_55_21 mr_55 rfl ?_
    have zcm2 : ((-2) : Int32).toInt = (-2) := by decide
    exact kk (-2) hh22 (by omega) K23
  · refine xi_cmf (pc' := 5) kc_11_2 rfl (xc_lt_f (X := x1.toInt) (Y := 0) rfl (by decide) (by omega)) ?_
    refine xi_iload_n (pc' := 6) (x := x1) kc_11_5 rfl rfl ?_
    refine xi_iload_n (pc' := 7) (x := 63) kc_11_6 rfl rfl ?_
    by_cases c24 : 63 < x1.toInt
    · refine xi_cmt (pc' := 14) kc_11_7 rfl (xc_gt_t (X := x1.toInt) (Y := 63) rfl (by decide) (by omega)) ?_
      refine xi_iconst (pc' := 15) (v := 0) kc_11_14 rfl rfl ?_
      refine xi_ireturn kc_11_15 mr_11 rfl ?_
      show xw J ov (d + 1) 55 (12, [(0, .ref 115), (1, .int x1), (2, .int x2)], [.int 0], hh16) _
      refine xi_iff (pc' := 15) kc_55_12 rfl rfl ?_
      refine xi_aload_n (pc' := 16) (x := 115) kc_55_15 rfl rfl ?_
      refine xi_bipush (pc' := 18) (v := (-2)) kc_55_16 rfl rfl ?_
      refine xi_virtual (mj := 12) (as := [.int (-2)]) (st1 := []) (lv0 := [(0, .ref 115), (1, .int (-2))]) kc_55_18 rfl rfl rfl rfl rfl eh15.1 (Nat.le_of_ble_eq_true rfl) (hJ _ _ _ _ (by decide)) (xm_le ml_12 rfl) rfl ?_
      refine xi_aload_n (pc' := 1) (x := 115) kc_12_0 rfl rfl ?_
      refine xi_getfield (pc' := 4) (v := .ref 140) kc_12_1 rfl rfl rfl eh15.1 rfl ?_
      refine xi_iload_n (pc' := 5) (x := (-2)) kc_12_4 rfl rfl ?_
      refine xi_ineg (pc' := 6) (v := 2) kc_12_5 rfl rfl ?_
      refine xi_dup2 (pc' := 7) kc_12_6 rfl ⟨rfl, rfl⟩ ?_
      obtain ⟨y25, A25, hy25, ry25⟩ := xk_arr K17.1 xD_140
      obtain ⟨v26, ev26, bv26, dv26⟩ := xj_get hy25 ry25 (i := 2) (by decide) (by decide)
      refine xi_iaload (pc' := 8) (v := v26) kc_12_7 rfl A25 (by decide) rfl (xi_in (by decide) (by rw [hy25]; decide)) ev26 ?_
      refine xi_iconst (pc' := 9) (v := 1) kc_12_8 rfl rfl ?_
      obtain ⟨v27, ev27⟩ : ∃ q : Int32, (v26 : Int32) + 1 = q := ⟨_, rfl⟩
      have rv27 := xc_rng v27
      refine xi_iadd (pc' := 10) (v := v27) kc_12_9 rfl ev27 ?_
      obtain ⟨y28, s28, hy28, ry28⟩ := xj_set (v := v27) hy25 ry25 2 (by first | omega | decide) (by first | omega | decide)
      refine xi_iastore (pc' := 11) (x' := y28) kc_12_10 rfl A25 rfl (xi_in (by decide) (by rw [hy25]; decide)) s28 (fun hh28 eh28 => ?_)
      have K29 := xk_pa K17 (xk_wa (by decide +kernel)) xD_140 hy28 ry28 eh28
      refine xi_iload_n (pc' := 12) (x := (-2)) kc_12_11 rfl rfl ?_
      refine xi_ireturn kc_12_12 mr_12 rfl ?_
      show xw J ov (d + 1) 55 (21, [(0, .ref 115), (1, .int x1), (2, .int x2)], [.int (-2)], hh28) _
      refine xi_ireturn kc_55_21 mr_55 rfl ?_
      have zcm2 : ((-2) : Int32).toInt = (-2) := by decide
      exact kk (-2) hh28 (by omega) K29
    · refine xi_cmf (pc' := 10) kc_11_7 rfl (xc_gt_f (X := x1.toInt) (Y := 63) rfl (by decide) (by omega)) ?_
      refine xi_iconst (pc' := 11) (v := 1) kc_11_10 rfl rfl ?_
      refine xi_goto (pc' := 15) kc_11_11 rfl ?_
      refine xi_ireturn kc_11_15 mr_11 rfl ?_
      show xw J ov (d + 1) 55 (12, [(0, .ref 115), (1, .int x1), (2, .int x2)], [.int 1], hh16) _
      refine xi_ift (pc' := 22) kc_55_12 rfl rfl ?_
      refine xi_iload_n (pc' := 23) (x := x2) kc_55_22 rfl rfl ?_
      refine xi_iconst (pc' := 24) (v := 1) kc_55_23 rfl rfl ?_
      by_cases c30 : 1 ≤ x2.toInt
      · refine xi_cmt (pc' := 34) kc_55_24 rfl (xc_ge_t (X := x2.toInt) (Y := 1) rfl (by decide) (by omega)) ?_
        refine xi_iload_n (pc' := 35) (x := x2) kc_55_34 rfl rfl ?_
        refine xi_sipush (pc' := 38) (v := 999) kc_55_35 rfl rfl ?_
        by_cases c31 : 999 < x2.toInt
        · refine xi_cmt (pc' := 50) kc_55_38 rfl (xc_gt_t (X := x2.toInt) (Y := 999) rfl (by decide) (by omega)) ?_
          refine xi_aload_n (pc' := 51) (x := 115) kc_55_50 rfl rfl ?_
          refine xi_bipush (pc' := 53) (v := (-6)) kc_55_51 rfl rfl ?_
          refine xi_virtual (mj := 12) (as := [.int (-6)]) (st1 := []) (lv0 := [(0, .ref 115), (1, .int (-6))]) kc_55_53 rfl rfl rfl rfl rfl eh15.1 (Nat.le_of_ble_eq_true rfl) (hJ _ _ _ _ (by decide)) (xm_le ml_12 rfl) rfl ?_
          refine xi_aload_n (pc' := 1) (x := 115) kc_12_0 rfl rfl ?_
          refine xi_getfield (pc' := 4) (v := .ref 140) kc_12_1 rfl rfl rfl eh15.1 rfl ?_
          refine xi_iload_n (pc' := 5) (x := (-6)) kc_12_4 rfl rfl ?_
          refine xi_ineg (pc' := 6) (v := 6) kc_12_5 rfl rfl ?_
          refine xi_dup2 (pc' := 7) kc_12_6 rfl ⟨rfl, rfl⟩ ?_
          obtain ⟨y32, A32, hy32, ry32⟩ := xk_arr K17.1 xD_140
          obtain ⟨v33, ev33, bv33, dv33⟩ := xj_get hy32 ry32 (i := 6) (by decide) (by decide)
          refine xi_iaload (pc' := 8) (v := v33) kc_12_7 rfl A32 (by decide) rfl (xi_in (by decide) (by rw [hy32]; decide)) ev33 ?_
          refine xi_iconst (pc' := 9) (v := 1) kc_12_8 rfl rfl ?_
          obtain ⟨v34, ev34⟩ : ∃ q : Int32, (v33 : Int32) + 1 = q := ⟨_, rfl⟩
          have rv34 := xc_rng v34
          refine xi_iadd (pc' := 10) (v := v34) kc_12_9 rfl ev34 ?_
          obtain ⟨y35, s35, hy35, ry35⟩ := xj_set (v := v34) hy32 ry32 6 (by first | omega | decide) (by first | omega | decide)
          refine xi_iastore (pc' := 11) (x' := y35) kc_12_10 rfl A32 rfl (xi_in (by decide) (by rw [hy32]; decide)) s35 (fun hh35 eh35 => ?_)
          have K36 := xk_pa K17 (xk_wa (by decide +kernel)) xD_140 hy35 ry35 eh35
          refine xi_iload_n (pc' := 12) (x := (-6)) kc_12_11 rfl rfl ?_
          refine xi_ireturn kc_12_12 mr_12 rfl ?_
          show xw J ov (d + 1) 55 (56, [(0, .ref 115), (1, .int x1), (2, .int x2)], [.int (-6)], hh35) _
          refine xi_ireturn kc_55_56 mr_55 rfl ?_
          have zcm6 : ((-6) : Int32).toInt = (-6) := by decide
          exact kk (-6) hh35 (by omega) K36
        · refine xi_cmf (pc' := 41) kc_55_38 rfl (xc_gt_f (X := x2.toInt) (Y := 999) rfl (by decide) (by omega)) ?_
          refine xi_aload_n (pc' := 42) (x := 115) kc_55_41 rfl rfl ?_
          refine xi_getfield (pc' := 45) (v := .int u10) kc_55_42 rfl rfl rfl eh15.1 rfl ?_
          refine xi_bipush (pc' := 47) (v := 8) kc_55_45 rfl rfl ?_
          by_cases c37 : u10.toInt = 8
          · refine xi_cmf (pc' := 50) kc_55_47 rfl (xc_ne_f (X := u10.toInt) (Y := 8) rfl (by decide) (by omega)) ?_
            refine xi_aload_n (pc' := 51) (x := 115) kc_55_50 rfl rfl ?_
            refine xi_bipush (pc' := 53) (v := (-6)) kc_55_51 rfl rfl ?_
            refine xi_virtual (mj := 12) (as := [.int (-6)]) (st1 := []) (lv0 := [(0, .ref 115), (1, .int (-6))]) kc_55_53 rfl rfl rfl rfl rfl eh15.1 (Nat.le_of_ble_eq_true rfl) (hJ _ _ _ _ (by decide)) (xm_le ml_12 rfl) rfl ?_
            refine xi_aload_n (pc' := 1) (x := 115) kc_12_0 rfl rfl ?_
            refine xi_getfield (pc' := 4) (v := .ref 140) kc_12_1 rfl rfl rfl eh15.1 rfl ?_
            refine xi_iload_n (pc' := 5) (x := (-6)) kc_12_4 rfl rfl ?_
            refine xi_ineg (pc' := 6) (v := 6) kc_12_5 rfl rfl ?_
            refine xi_dup2 (pc' := 7) kc_12_6 rfl ⟨rfl, rfl⟩ ?_
            obtain ⟨y38, A38, hy38, ry38⟩ := xk_arr K17.1 xD_140
            obtain ⟨v39, ev39, bv39, dv39⟩ := xj_get hy38 ry38 (i := 6) (by decide) (by decide)
            refine xi_iaload (pc' := 8) (v := v39) kc_12_7 rfl A38 (by decide) rfl (xi_in (by decide) (by rw [hy38]; decide)) ev39 ?_
            refine xi_iconst (pc' := 9) (v := 1) kc_12_8 rfl rfl ?_
            obtain ⟨v40, ev40⟩ : ∃ q : Int32, (v39 : Int32) + 1 = q := ⟨_, rfl⟩
            have rv40 := xc_rng v40
            refine xi_iadd (pc' := 10) (v := v40) kc_12_9 rfl ev40 ?_
            obtain ⟨y41, s41, hy41, ry41⟩ := xj_set (v := v40) hy38 ry38 6 (by first | omega | decide) (by first | omega | decide)
            refine xi_iastore (pc' := 11) (x' := y41) kc_12_10 rfl A38 rfl (xi_in (by decide) (by rw [hy38]; decide)) s41 (fun hh41 eh41 => ?_)
            have K42 := xk_pa K17 (xk_wa (by decide +kernel)) xD_140 hy41 ry41 eh41
            refine xi_iload_n (pc' := 12) (x := (-6)) kc_12_11 rfl rfl ?_
            refine xi_ireturn kc_12_12 mr_12 rfl ?_
            show xw J ov (d + 1) 55 (56, [(0, .ref 115), (1, .int x1), (2, .int x2)], [.int (-6)], hh41) _
            refine xi_ireturn kc_55_56 mr_55 rfl ?_
            have zcm6 : ((-6) : Int32).toInt = (-6) := by decide
            exact kk (-6) hh41 (by omega) K42
          · refine xi_cmt (pc' := 57) kc_55_47 rfl (xc_ne_t (X := u10.toInt) (Y := 8) rfl (by decide) (by omega)) ?_
            refine xi_aload_n (pc' := 58) (x := 115) kc_55_57 rfl rfl ?_
            refine xi_getfield (pc' := 61) (v := .ref 152) kc_55_58 rfl rfl rfl eh15.1 rfl ?_
            refine xi_aload_n (pc' := 62) (x := 115) kc_55_61 rfl rfl ?_
            refine xi_getfield (pc' := 65) (v := .int u10) kc_55_62 rfl rfl rfl eh15.1 rfl ?_
            refine xi_iload_n (pc' := 66) (x := x1) kc_55_65 rfl rfl ?_
            obtain ⟨y43, A43, hy43, ry43⟩ := xk_arr K17.1 xD_152
            obtain ⟨y44, s44, hy44, ry44⟩ := xj_set (v := x1) hy43 ry43 u10 (by first | omega | decide) (by first | omega | decide)
            refine xi_iastore (pc' := 67) (x' := y44) kc_55_66 rfl A43 rfl (xi_in (by omega) (by rw [hy43]; omega)) s44 (fun hh44 eh44 => ?_)
            have K45 := xk_pa K17 (xk_wa (by decide +kernel)) xD_152 hy44 ry44 eh44
            refine xi_aload_n (pc' := 68) (x := 115) kc_55_67 rfl rfl ?_
            have A46 := ((eh44.2.1 115 (by decide)).trans eh15.1)
            refine xi_getfield (pc' := 71) (v := .ref 153) kc_55_68 rfl rfl rfl A46 rfl ?_
            refine xi_aload_n (pc' := 72) (x := 115) kc_55_71 rfl rfl ?_
            refine xi_getfield (pc' := 75) (v := .int u10) kc_55_72 rfl rfl rfl A46 rfl ?_
            refine xi_iload_n (pc' := 76) (x := x2) kc_55_75 rfl rfl ?_
            obtain ⟨y47, A47, hy47, ry47⟩ := xk_arr K45.1 xD_153
            obtain ⟨y48, s48, hy48, ry48⟩ := xj_set (v := x2) hy47 ry47 u10 (by first | omega | decide) (by first | omega | decide)
            refine xi_iastore (pc' := 77) (x' := y48) kc_55_76 rfl A47 rfl (xi_in (by omega) (by rw [hy47]; omega)) s48 (fun hh48 eh48 => ?_)
            have K49 := xk_pa K45 (xk_wa (by decide +kernel)) xD_153 hy48 ry48 eh48
            refine xi_aload_n (pc' := 78) (x := 115) kc_55_77 rfl rfl ?_
            have A50 := ((eh48.2.1 115 (by decide)).trans A46)
            refine xi_getfield (pc' := 81) (v := .ref 154) kc_55_78 rfl rfl rfl A50 rfl ?_
            refine xi_aload_n (pc' := 82) (x := 115) kc_55_81 rfl rfl ?_
            refine xi_getfield (pc' := 85) (v := .int u10) kc_55_82 rfl rfl rfl A50 rfl ?_
            refine xi_iconst (pc' := 86) (v := 0) kc_55_85 rfl rfl ?_
            obtain ⟨y51, A51, hy51, ry51⟩ := xk_arr K49.1 xD_154
            obtain ⟨y52, s52, hy52, ry52⟩ := xj_set (v := 0) hy51 ry51 u10 (by first | omega | decide) (by first | omega | decide)
            refine xi_iastore (pc' := 87) (x' := y52) kc_55_86 rfl A51 rfl (xi_in (by omega) (by rw [hy51]; omega)) s52 (fun hh52 eh52 => ?_)
            have K53 := xk_pa K49 (xk_wa (by decide +kernel)) xD_154 hy52 ry52 eh52
            refine xi_aload_n (pc' := 88) (x := 115) kc_55_87 rfl rfl ?_
            refine xi_dup (pc' := 89) kc_55_88 rfl rfl ?_
            have A54 := ((eh52.2.1 115 (by decide)).trans A50)
            refine xi_getfield (pc' := 92) (v := .int u10) kc_55_89 rfl rfl rfl A54 rfl ?_
            refine xi_iconst (pc' := 93) (v := 1) kc_55_92 rfl rfl ?_
            obtain ⟨v55, ev55⟩ : ∃ q : Int32, u10 + 1 = q := ⟨_, rfl⟩
            have zv55 : v55.toInt = (u10.toInt + 1) := by rw [← ev55]; exact (xz_add (X := u10.toInt) (Y := 1) rfl (by decide) (by omega) (by omega)).trans (by omega)
            refine xi_iadd (pc' := 94) (v := v55) kc_55_93 rfl ev55 ?_
            refine xi_putfield (pc' := 97) (fs' := [.int 0, .int u2, .ref 116, .ref 117, .ref 118, .ref 119, .ref 120, .ref 121, .ref 122, .ref 123, .ref 124, .ref 125, .ref 126, .ref 127, .ref 128, .ref 129, .int u3, .ref 130, .int u4, .ref 131, .ref 132, .ref 133, .ref 134, .int u5, .ref 135, .ref 136, .ref 137, .ref 138, .ref 139, .ref 140, .ref 141, .ref 142, .int u6, .int u7, .int u8, .ref 143, .ref 144, .ref 145, .ref 146, .ref 147, .ref 148, .int u9, .ref 149, .ref 150, .ref 151, .int v55, .ref 152, .ref 153, .ref 154, .ref 155, .ref 156, .ref 157, .ref 158, .ref 159, .int u11, .ref 160, .int u12, .ref 161, .ref 162, .ref 163, .ref 164, .int u13, .ref 165, .ref 166]) kc_55_94 rfl rfl rfl A54 rfl rfl rfl (Nat.le_of_ble_eq_true rfl) rfl (fun hh57 eh56 => ?_)
            have K58 := xk_pf (k := 45) (v := v55) K53 (xk_wf (by decide +kernel)) xD_115 A54 rfl (by first | omega | decide) (by first | omega | decide) eh56 rfl
            refine xi_aload_n (pc' := 98) (x := 115) kc_55_97 rfl rfl ?_
            refine xi_getfield (pc' := 101) (v := .int v55) kc_55_98 rfl rfl rfl eh56.1 rfl ?_
            refine xi_iconst (pc' := 102) (v := 1) kc_55_101 rfl rfl ?_
            obtain ⟨v59, ev59⟩ : ∃ q : Int32, v55 - 1 = q := ⟨_, rfl⟩
            have zv59 : v59.toInt = u10.toInt := by rw [← ev59]; exact (xz_sub (X := (u10.toInt + 1)) (Y := 1) zv55 (by decide) (by omega) (by omega)).trans (by omega)
            refine xi_isub (pc' := 103) (v := v59) kc_55_102 rfl ev59 ?_
            refine xi_ireturn kc_55_103 mr_55 rfl ?_
            exact kk v59 hh57 (by omega) K58
      · refine xi_cmf (pc' := 27) kc_55_24 rfl (xc_ge_f (X := x2.toInt) (Y := 1) rfl (by decide) (by omega)) ?_
        refine xi_aload_n (pc' := 28) (x := 115) kc_55_27 rfl rfl ?_
        refine xi_bipush (pc' := 30) (v := (-4)) kc_55_28 rfl rfl ?_
        refine xi_virtual (mj := 12) (as := [.int (-4)]) (st1 := []) (lv0 := [(0, .ref 115), (1, .int (-4))]) kc_55_30 rfl rfl rfl rfl rfl eh15.1 (Nat.le_of_ble_eq_true rfl) (hJ _ _ _ _ (by decide)) (xm_le ml_12 rfl) rfl ?_
        refine xi_aload_n (pc' := 1) (x := 115) kc_12_0 rfl rfl ?_
        refine xi_getfield (pc' := 4) (v := .ref 140) kc_12_1 rfl rfl rfl eh15.1 rfl ?_
        refine xi_iload_n (pc' := 5) (x := (-4)) kc_12_4 rfl rfl ?_
        refine xi_ineg (pc' := 6) (v := 4) kc_12_5 rfl rfl ?_
        refine xi_dup2 (pc' := 7) kc_12_6 rfl ⟨rfl, rfl⟩ ?_
        obtain ⟨y60, A60, hy60, ry60⟩ := xk_arr K17.1 xD_140
        obtain ⟨v61, ev61, bv61, dv61⟩ := xj_get hy60 ry60 (i := 4) (by decide) (by decide)
        refine xi_iaload (pc' := 8) (v := v61) kc_12_7 rfl A60 (by decide) rfl (xi_in (by decide) (by rw [hy60]; decide)) ev61 ?_
        refine xi_iconst (pc' := 9) (v := 1) kc_12_8 rfl rfl ?_
        obtain ⟨v62, ev62⟩ : ∃ q : Int32, (v61 : Int32) + 1 = q := ⟨_, rfl⟩
        have rv62 := xc_rng v62
        refine xi_iadd (pc' := 10) (v := v62) kc_12_9 rfl ev62 ?_
        obtain ⟨y63, s63, hy63, ry63⟩ := xj_set (v := v62) hy60 ry60 4 (by first | omega | decide) (by first | omega | decide)
        refine xi_iastore (pc' := 11) (x' := y63) kc_12_10 rfl A60 rfl (xi_in (by decide) (by rw [hy60]; decide)) s63 (fun hh63 eh63 => ?_)
        have K64 := xk_pa K17 (xk_wa (by decide +kernel)) xD_140 hy63 ry63 eh63
        refine xi_iload_n (pc' := 12) (x := (-4)) kc_12_11 rfl rfl ?_
        refine xi_ireturn kc_12_12 mr_12 rfl ?_
        show xw J ov (d + 1) 55 (33, [(0, .ref 115), (1, .int x1), (2, .int x2)], [.int (-4)], hh63) _
        refine xi_ireturn kc_55_33 mr_55 rfl ?_
        have zcm4 : ((-4) : Int32).toInt = (-4) := by decide
        exact kk (-4) hh63 (by omega) K64
set_option maxHeartbeats 4000000 in
theorem mt_56_0 {J : xe_J} {ov : List (List Int32)} (hJ : ∀ d mj as h, mj ≠ xe_loff → J d mj as h = none) (hov1 : ov[1]? = some [10, 0, 0, 0, 0, 0]) (hov2 : ov[2]? = some [99, 30, 50, 50, 1, 99999]) {d : Nat} {Q : Option Value → xe_H → Prop} {h : xe_H} {x1 : Int32} {x2 : Int32} (T : xt h) (b2 : (0 ≤ x2.toInt ∧ x2.toInt ≤ 1)) (kk : (∀ (r : Int32) (h' : xe_H), xk xP_17 h h' → Q (some (.int r)) h')) : xw J ov (d + 8) 56 (0, [(0, .ref 115), (1, .int x1), (2, .int x2)], [], h) Q := by
  have K : xk xP_17 h h := xk_re T
  have rx1 := xc_rng x1
  refine xi_aload_n (pc' := 1) (x := 115) kc_56_0 rfl rfl ?_
  refine xi_iconst (pc' := 2) (v := 0) kc_56_1 rfl rfl ?_
  obtain ⟨u1, u2, u3, u4, u5, u6, u7, u8, u9, u10, u11, u12, u13, bu1, bu2, bu3, bu4, bu5, bu6, bu7, bu8, bu9, bu10, bu11, bu12, bu13, A14⟩ := xq_115 K.1
  refine xi_putfield (pc' := 5) (fs' := [.int 0, .int u2, .ref 116, .ref 117, .ref 118, .ref 119, .ref 120, .ref 121, .ref 122, .ref 123, .ref 124, .ref 125, .ref 126, .ref 127, .ref 128, .ref 129, .int u3, .ref 130, .int u4, .ref 131, .ref 132, .ref 133, .ref 134, .int u5, .ref 135, .ref 136, .ref 137, .ref 138, .ref 139, .ref 140, .ref 141, .ref 142, .int u6, .int u7, .int u8, .ref 143, .ref 144, .ref 145, .ref 146, .ref 147, .ref 148, .int u9, .ref 149, .ref 150, .ref 151, .int u10, .ref 152, .ref 153, .ref 154, .ref 155, .ref 156, .ref 157, .ref 158, .ref 159, .int u11, .ref 160, .int u12, .ref 161, .ref 162, .ref 163, .ref 164, .int u13, .ref 165, .ref 166]) kc_56_2 rfl rfl rfl A14 rfl rfl rfl (Nat.le_of_ble_eq_true rfl) rfl (fun hh16 eh15 => ?_)
  have K17 := xk_pf (k := 0) (v := 0) K (xk_wf (by decide +kernel)) xD_115 A14 rfl (by first | omega | decide) (by first | omega | decide) eh15 rfl
  refine xi_iload_n (pc' := 6) (x := x1) kc_56_5 rfl rfl ?_
  refine xi_iconst (pc' := 7) (v := 0) kc_56_6 rfl rfl ?_
  refine xi_aload_n (pc' := 8) (x := 115) kc_56_7 rfl rfl ?_
  refine xi_getfield (pc' := 11) (v := .int u10) kc_56_8 rfl rfl rfl eh15.1 rfl ?_
  refine xi_iconst (pc' := 12) (v := 1) kc_56_11 rfl rfl ?_
  obtain ⟨v18, ev18⟩ : ∃ q : Int32, u10 - 1 = q := ⟨_, rfl⟩
  have zv18 : v18.toInt = (u10.toInt + (-1)) := by rw [← ev18]; exact (xz_sub (X := u10.toInt) (Y := 1) rfl (by decide) (by omega) (by omega)).trans (by omega)
  refine xi_isub (pc' := 13) (v := v18) kc_56_12 rfl ev18 ?_
  refine xi_static (mj := 11) (as := [.int x1, .int 0, .int v18]) (st1 := []) (lv0 := [(0, .int x1), (1, .int 0), (2, .int v18)]) kc_56_13 rfl rfl (Nat.le_of_ble_eq_true rfl) rfl rfl (Nat.le_of_ble_eq_true rfl) (hJ _ _ _ _ (by decide)) (xm_le ml_11 rfl) rfl ?_
  refine xi_iload_n (pc' := 1) (x := x1) kc_11_0 rfl rfl ?_
  refine xi_iload_n (pc' := 2) (x := 0) kc_11_1 rfl rfl ?_
  by_cases c19 : x1.toInt < 0
  · refine xi_cmt (pc' := 14) kc_11_2 rfl (xc_lt_t (X := x1.toInt) (Y := 0) rfl (by decide) (by omega)) ?_
    refine xi_iconst (pc' := 15) (v := 0) kc_11_14 rfl rfl ?_
    refine xi_ireturn kc_11_15 mr_11 rfl ?_
    show xw J ov (d + 8) 56 (16, [(0, .ref 115), (1, .int x1), (2, .int x2)], [.int 0], hh16) _
    refine xi_iff (pc' := 19) kc_56_16 rfl rfl ?_
    refine xi_aload_n (pc' := 20) (x := 115) kc_56_19 rfl rfl ?_
    refine xi_iconst (pc' := 21) (v := (-1)) kc_56_20 rfl rfl ?_
    refine xi_virtual (mj := 12) (as := [.int (-1)]) (st1 := []) (lv0 := [(0, .ref 115), (1, .int (-1))]) kc_56_21 rfl rfl rfl rfl rfl eh15.1 (Nat.le_of_ble_eq_true rfl) (hJ _ _ _ _ (by decide)) (xm_le ml_12 rfl) rfl ?_
    refine xi_aload_n (pc' := 1) (x := 115) kc_12_0 rfl rfl ?_
    refine xi_getfield (pc' := 4) (v := .ref 140) kc_12_1 rfl rfl rfl eh15.1 rfl ?_
    refine xi_iload_n (pc' := 5) (x := (-1)) kc_12_4 rfl rfl ?_
    refine xi_ineg (pc' := 6) (v := 1) kc_12_5 rfl rfl ?_
    refine xi_dup2 (pc' := 7) kc_12_6 rfl ⟨rfl, rfl⟩ ?_
    obtain ⟨y20, A20, hy20, ry20⟩ := xk_arr K17.1 xD_140
    obtain ⟨v21, ev21, bv21, dv21⟩ := xj_get hy20 ry20 (i := 1) (by decide) (by decide)
    refine xi_iaload (pc' := 8) (v := v21) kc_12_7 rfl A20 (by decide) rfl (xi_in (by decide) (by rw [hy20]; decide)) ev21 ?_
    refine xi_iconst (pc' := 9) (v := 1) kc_12_8 rfl rfl ?_
    obtain ⟨v22, ev22⟩ : ∃ q : Int32, (v21 : Int32) + 1 = q := ⟨_, rfl⟩
    have rv22 := xc_rng v22
    refine xi_iadd (pc' := 10) (v := v22) kc_12_9 rfl ev22 ?_
    obtain ⟨y23, s23, hy23, ry23⟩ := xj_set (v := v22) hy20 ry20 1 (by first | omega | decide) (by first | omega | decide)
    refine xi_iastore (pc' := 11) (x' := y23) kc_12_10 rfl A20 rfl (xi_in (by decide) (by rw [hy20]; decide)) s23 (fun hh23 eh23 => ?_)
    have K24 := xk_pa K17 (xk_wa (by decide +kernel)) xD_140 hy23 ry23 eh23
    refine xi_iload_n (pc' := 12) (x := (-1)) kc_12_11 rfl rfl ?_
    refine xi_ireturn kc_12_12 mr_12 rfl ?_
    show xw J ov (d + 8) 56 (24, [(0, .ref 115), (1, .int x1), (2, .int x2)], [.int (-1)], hh23) _
    refine xi_ireturn kc_56_24 mr_56 rfl ?_
    have zcm1 : ((-1) : Int32).toInt = (-1) := by decide
    exact kk (-1) hh23 K24
  · refine xi_cmf (pc' := 5) kc_11_2 rfl (xc_lt_f (X := x1.toInt) (Y := 0) rfl (by decide) (by omega)) ?_
    refine xi_iload_n (pc' := 6) (x := x1) kc_11_5 rfl rfl ?_
    refine xi_iload_n (pc' := 7) (x := v18) kc_11_6 rfl rfl ?_
    by_cases c25 : (u10.toInt + (-1)) < x1.toInt
    · refine xi_cmt (pc' := 14) kc_11_7 rfl (xc_gt_t (X := x1.toInt) (Y := (u10.toInt + (-1))) rfl zv18 (by omega)) ?_
      refine xi_iconst (pc' := 15) (v := 0) kc_11_14 rfl rfl ?_
      refine xi_ireturn kc_11_15 mr_11 rfl ?_
      show xw J ov (d + 8) 56 (16, [(0, .ref 115), (1, .int x1), (2, .int x2)], [.int 0], hh16) _
      refine xi_iff (pc' := 19) kc_56_16 rfl rfl ?_
      refine xi_aload_n (pc' := 20) (x := 115) kc_56_19 rfl rfl ?_
      refine xi_iconst (pc' := 21) (v := (-1)) kc_56_20 rfl rfl ?_
      refine xi_virtual (mj := 12) (as := [.int (-1)]) (st1 := []) (lv0 := [(0, .ref 115), (1, .int (-1))]) kc_56_21 rfl rfl rfl rfl rfl eh15.1 (Nat.le_of_ble_eq_true rfl) (hJ _ _ _ _ (by decide)) (xm_le ml_12 rfl) rfl ?_
      refine xi_aload_n (pc' := 1) (x := 115) kc_12_0 rfl rfl ?_
      refine xi_getfield (pc' := 4) (v := .ref 140) kc_12_1 rfl rfl rfl eh15.1 rfl ?_
      refine xi_iload_n (pc' := 5) (x := (-1)) kc_12_4 rfl rfl ?_
      refine xi_ineg (pc' := 6) (v := 1) kc_12_5 rfl rfl ?_
      refine xi_dup2 (pc' := 7) kc_12_6 rfl ⟨rfl, rfl⟩ ?_
      obtain ⟨y26, A26, hy26, ry26⟩ := xk_arr K17.1 xD_140
      obtain ⟨v27, ev27, bv27, dv27⟩ := xj_get hy26 ry26 (i := 1) (by decide) (by decide)
      refine xi_iaload (pc' := 8) (v := v27) kc_12_7 rfl A26 (by decide) rfl (xi_in (by decide) (by rw [hy26]; decide)) ev27 ?_
      refine xi_iconst (pc' := 9) (v := 1) kc_12_8 rfl rfl ?_
      obtain ⟨v28, ev28⟩ : ∃ q : Int32, (v27 : Int32) + 1 = q := ⟨_, rfl⟩
      have rv28 := xc_rng v28
      refine xi_iadd (pc' := 10) (v := v28) kc_12_9 rfl ev28 ?_
      obtain ⟨y29, s29, hy29, ry29⟩ := xj_set (v := v28) hy26 ry26 1 (by first | omega | decide) (by first | omega | decide)
      refine xi_iastore (pc' := 11) (x' := y29) kc_12_10 rfl A26 rfl (xi_in (by decide) (by rw [hy26]; decide)) s29 (fun hh29 eh29 => ?_)
      have K30 := xk_pa K17 (xk_wa (by decide +kernel)) xD_140 hy29 ry29 eh29
      refine xi_iload_n (pc' := 12) (x := (-1)) kc_12_11 rfl rfl ?_
      refine xi_ireturn kc_12_12 mr_12 rfl ?_
      show xw J ov (d + 8) 56 (24, [(0, .ref 115), (1, .int x1), (2, .int x2)], [.int (-1)], hh29) _
      refine xi_ireturn kc_56_24 mr_56 rfl ?_
      have zcm1 : ((-1) : Int32).toInt = (-1) := by decide
      exact kk (-1) hh29 K30
    · refine xi_cmf (pc' := 10) kc_11_7 rfl (xc_gt_f (X := x1.toInt) (Y := (u10.toInt + (-1))) rfl zv18 (by omega)) ?_
      refine xi_iconst (pc' := 11) (v := 1) kc_11_10 rfl rfl ?_
      refine xi_goto (pc' := 15) kc_11_11 rfl ?_
      refine xi_ireturn kc_11_15 mr_11 rfl ?_
      show xw J ov (d + 8) 56 (16, [(0, .ref 115), (1, .int x1), (2, .int x2)], [.int 1], hh16) _
      refine xi_ift (pc' := 25) kc_56_16 rfl rfl ?_
      refine xi_aload_n (pc' := 26) (x := 115) kc_56_25 rfl rfl ?_
      refine xi_getfield (pc' := 29) (v := .ref 154) kc_56_26 rfl rfl rfl eh15.1 rfl ?_
      refine xi_iload_n (pc' := 30) (x := x1) kc_56_29 rfl rfl ?_
      obtain ⟨y31, A31, hy31, ry31⟩ := xk_arr K17.1 xD_154
      obtain ⟨v32, ev32, bv32, dv32⟩ := xj_get hy31 ry31 (i := x1) (by omega) (by omega)
      refine xi_iaload (pc' := 31) (v := v32) kc_56_30 rfl A31 (by decide) rfl (xi_in (by omega) (by rw [hy31]; omega)) ev32 ?_
      by_cases c33 : v32.toInt = 0
      · refine xi_ift (pc' := 41) kc_56_31 rfl (xc_eq_t (X := v32.toInt) (Y := 0) rfl (by decide) (by omega)) ?_
        refine xi_aload_n (pc' := 42) (x := 115) kc_56_41 rfl rfl ?_
        refine xi_getfield (pc' := 45) (v := .ref 154) kc_56_42 rfl rfl rfl eh15.1 rfl ?_
        refine xi_iload_n (pc' := 46) (x := x1) kc_56_45 rfl rfl ?_
        refine xi_iload_n (pc' := 47) (x := x2) kc_56_46 rfl rfl ?_
        by_cases c34 : x2.toInt = 0
        · refine xi_ift (pc' := 54) kc_56_47 rfl (xc_eq_t (X := x2.toInt) (Y := 0) rfl (by decide) (by omega)) ?_
          refine xi_iconst (pc' := 55) (v := 2) kc_56_54 rfl rfl ?_
          obtain ⟨y35, s35, hy35, ry35⟩ := xj_set (v := 2) hy31 ry31 x1 (by first | omega | decide) (by first | omega | decide)
          refine xi_iastore (pc' := 56) (x' := y35) kc_56_55 rfl A31 rfl (xi_in (by omega) (by rw [hy31]; omega)) s35 (fun hh35 eh35 => ?_)
          have K36 := xk_pa K17 (xk_wa (by decide +kernel)) xD_154 hy35 ry35 eh35
          refine xi_aload_n (pc' := 57) (x := 115) kc_56_56 rfl rfl ?_
          have A37 := ((eh35.2.1 115 (by decide)).trans eh15.1)
          refine xi_virtual (mj := 52) (as := []) (st1 := []) (lv0 := [(0, .ref 115)]) kc_56_57 rfl rfl rfl rfl rfl A37 (Nat.le_of_ble_eq_true rfl) (hJ _ _ _ _ (by decide)) (xm_le ml_52 rfl) rfl ?_
          refine mt_52_0 hJ hov1 hov2 (d := d)  K36.1 (fun r38 hh39 K40 => ?_)
          have br38 := xc_rng r38
          have K41 := xk_tr K36 K40 (xsb_ok _ _ (by decide +kernel))
          obtain ⟨u42, u43, u44, u45, u46, u47, u48, u49, u50, u51, u52, u53, u54, bu42, bu43, bu44, bu45, bu46, bu47, bu48, bu49, bu50, bu51, bu52, bu53, bu54, A55⟩ := xq_115 K41.1
          have e56 : u2 = u43 := xk_eqi (q := 1) K40 (by decide +kernel) A37 A55 rfl rfl
          subst e56
          have e57 : u5 = u46 := xk_eqi (q := 23) K40 (by decide +kernel) A37 A55 rfl rfl
          subst e57
          have e58 : u8 = u49 := xk_eqi (q := 34) K40 (by decide +kernel) A37 A55 rfl rfl
          subst e58
          show xw J ov (d + 8) 56 (60, [(0, .ref 115), (1, .int x1), (2, .int x2)], [.int r38], hh39) _
          refine xi_ireturn kc_56_60 mr_56 rfl ?_
          exact kk r38 hh39 K41
        · refine xi_iff (pc' := 50) kc_56_47 rfl (xc_eq_f (X := x2.toInt) (Y := 0) rfl (by decide) (by omega)) ?_
          refine xi_iconst (pc' := 51) (v := 1) kc_56_50 rfl rfl ?_
          refine xi_goto (pc' := 55) kc_56_51 rfl ?_
          obtain ⟨y59, s59, hy59, ry59⟩ := xj_set (v := 1) hy31 ry31 x1 (by first | omega | decide) (by first | omega | decide)
          refine xi_iastore (pc' := 56) (x' := y59) kc_56_55 rfl A31 rfl (xi_in (by omega) (by rw [hy31]; omega)) s59 (fun hh59 eh59 => ?_)
          have K60 := xk_pa K17 (xk_wa (by decide +kernel)) xD_154 hy59 ry59 eh59
          refine xi_aload_n (pc' := 57) (x := 115) kc_56_56 rfl rfl ?_
          have A61 := ((eh59.2.1 115 (by decide)).trans eh15.1)
          refine xi_virtual (mj := 52) (as := []) (st1 := []) (lv0 := [(0, .ref 115)]) kc_56_57 rfl rfl rfl rfl rfl A61 (Nat.le_of_ble_eq_true rfl) (hJ _ _ _ _ (by decide)) (xm_le ml_52 rfl) rfl ?_
          refine mt_52_0 hJ hov1 hov2 (d := d)  K60.1 (fun r62 hh63 K64 => ?_)
          have br62 := xc_rng r62
          have K65 := xk_tr K60 K64 (xsb_ok _ _ (by decide +kernel))
          obtain ⟨u66, u67, u68, u69, u70, u71, u72, u73, u74, u75, u76, u77, u78, bu66, bu67, bu68, bu69, bu70, bu71, bu72, bu73, bu74, bu75, bu76, bu77, bu78, A79⟩ := xq_115 K65.1
          have e80 : u2 = u67 := xk_eqi (q := 1) K64 (by decide +kernel) A61 A79 rfl rfl
          subst e80
          have e81 : u5 = u70 := xk_eqi (q := 23) K64 (by decide +kernel) A61 A79 rfl rfl
          subst e81
          have e82 : u8 = u73 := xk_eqi (q := 34) K64 (by decide +kernel) A61 A79 rfl rfl
          subst e82
          show xw J ov (d + 8) 56 (60, [(0, .ref 115), (1, .int x1), (2, .int x2)], [.int r62], hh63) _
          refine xi_ireturn kc_56_60 mr_56 rfl ?_
          exact kk r62 hh63 K65
      · refine xi_iff (pc' := 34) kc_56_31 rfl (xc_eq_f (X := v32.toInt) (Y := 0) rfl (by decide) (by omega)) ?_
        refine xi_aload_n (pc' := 35) (x := 115) kc_56_34 rfl rfl ?_
        refine xi_bipush (pc' := 37) (v := (-3)) kc_56_35 rfl rfl ?_
        refine xi_virtual (mj := 12) (as := [.int (-3)]) (st1 := []) (lv0 := [(0, .ref 115), (1, .int (-3))]) kc_56_37 rfl rfl rfl rfl rfl eh15.1 (Nat.le_of_ble_eq_true rfl) (hJ _ _ _ _ (by decide)) (xm_le ml_12 rfl) rfl ?_
        refine xi_aload_n (pc' := 1) (x := 115) kc_12_0 rfl rfl ?_
        refine xi_getfield (pc' := 4) (v := .ref 140) kc_12_1 rfl rfl rfl eh15.1 rfl ?_
        refine xi_iload_n (pc' := 5) (x := (-3)) kc_12_4 rfl rfl ?_
        refine xi_ineg (pc' := 6) (v := 3) kc_12_5 rfl rfl ?_
        refine xi_dup2 (pc' := 7) kc_12_6 rfl ⟨rfl, rfl⟩ ?_
        obtain ⟨y83, A83, hy83, ry83⟩ := xk_arr K17.1 xD_140
        obtain ⟨v84, ev84, bv84, dv84⟩ := xj_get hy83 ry83 (i := 3) (by decide) (by decide)
        refine xi_iaload (pc' := 8) (v := v84) kc_12_7 rfl A83 (by decide) rfl (xi_in (by decide) (by rw [hy83]; decide)) ev84 ?_
        refine xi_iconst (pc' := 9) (v := 1) kc_12_8 rfl rfl ?_
        obtain ⟨v85, ev85⟩ : ∃ q : Int32, (v84 : Int32) + 1 = q := ⟨_, rfl⟩
        have rv85 := xc_rng v85
        refine xi_iadd (pc' := 10) (v := v85) kc_12_9 rfl ev85 ?_
        obtain ⟨y86, s86, hy86, ry86⟩ := xj_set (v := v85) hy83 ry83 3 (by first | omega | decide) (by first | omega | decide)
        refine xi_iastore (pc' := 11) (x' := y86) kc_12_10 rfl A83 rfl (xi_in (by decide) (by rw [hy83]; decide)) s86 (fun hh86 eh86 => ?_)
        have K87 := xk_pa K17 (xk_wa (by decide +kernel)) xD_140 hy86 ry86 eh86
        refine xi_iload_n (pc' := 12) (x := (-3)) kc_12_11 rfl rfl ?_
        refine xi_ireturn kc_12_12 mr_12 rfl ?_
        show xw J ov (d + 8) 56 (40, [(0, .ref 115), (1, .int x1), (2, .int x2)], [.int (-3)], hh86) _
        refine xi_ireturn kc_56_40 mr_56 rfl ?_
        have zcm3 : ((-3) : Int32).toInt = (-3) := by decide
        exact kk (-3) hh86 K87
set_option maxHeartbeats 4000000 in
theorem lp_57_0 {J : xe_J} {ov : List (List Int32)} (hJ : ∀ d mj as h, mj ≠ xe_loff → J d mj as h = none) (hov1 : ov[1]? = some [10, 0, 0, 0, 0, 0]) (hov2 : ov[2]? = some [99, 30, 50, 50, 1, 99999]) {d : Nat} {Q : Option Value → xe_H → Prop} {hb : xe_H} (kk : (∀ (r : Int32) (h' : xe_H), ((-9) ≤ r.toInt ∧ r.toInt ≤ 7) → xk xP_0 hb h' → Q (some (.int r)) h')) : ∀ m : Nat, (∀ (x1 : Int32) (x2 : Int32) (x3 : Int32) (x4 : Int32) (h : xe_H), ((-9) ≤ x2.toInt ∧ x2.toInt ≤ 7) → (0 ≤ x4.toInt ∧ x4.toInt ≤ 8) → xk xP_0 hb h → (-66) * x4.toInt + 593 < (m : Int) → xw J ov (d + 8) 57 (18, [(0, .ref 115), (1, .int x1), (2, .int x2), (3, .int x3), (4, .int x4)], [], h) Q) ∧ (∀ (x1 : Int32) (x2 : Int32) (x3 : Int32) (x4 : Int32) (x5 : Int32) (x6 : Int32) (h : xe_H), (1 ≤ x1.toInt ∧ x1.toInt ≤ 2147483647) → ((-9) ≤ x2.toInt ∧ x2.toInt ≤ 7) → (0 ≤ x4.toInt ∧ x4.toInt ≤ 7) → (0 ≤ x6.toInt ∧ x6.toInt ≤ 64) → xk xP_0 hb h → (-66) * x4.toInt + (-1) * x6.toInt + 592 < (m : Int) → xw J ov (d + 8) 57 (37, [(0, .ref 115), (1, .int x1), (2, .int x2), (3, .int x3), (4, .int x4), (5, .int x5), (6, .int x6)], [], h) Q) := by
  intro m
  induction m with
  | zero =>
    refine ⟨?_, ?_⟩
    · intro x1 x2 x3 x4 h b2 b4 K hm; have rx1 := xc_rng x1; have rx3 := xc_rng x3; exfalso; omega
    · intro x1 x2 x3 x4 x5 x6 h b1 b2 b4 b6 K hm; have rx3 := xc_rng x3; have rx5 := xc_rng x5; exfalso; omega
  | succ m ih =>
    obtain ⟨i0, i1⟩ := ih
    refine ⟨?_, ?_⟩
    · intro x1 x2 x3 x4 h b2 b4 K hm
      have rx1 := xc_rng x1
      have rx3 := xc_rng x3
      refine xi_iload (pc' := 20) (x := x4) kc_57_18 rfl rfl ?_
      refine xi_aload_n (pc' := 21) (x := 115) kc_57_20 rfl rfl ?_
      obtain ⟨u1, u2, u3, u4, u5, u6, u7, u8, u9, u10, u11, u12, u13, bu1, bu2, bu3, bu4, bu5, bu6, bu7, bu8, bu9, bu10, bu11, bu12, bu13, A14⟩ := xq_115 K.1
      refine xi_getfield (pc' := 24) (v := .int u10) kc_57_21 rfl rfl rfl A14 rfl ?_
      by_cases c15 : u10.toInt ≤ x4.toInt
      · refine xi_cmt (pc' := 143) kc_57_24 rfl (xc_ge_t (X := x4.toInt) (Y := u10.toInt) rfl rfl (by omega)) ?_
        refine xi_iload_n (pc' := 144) (x := x2) kc_57_143 rfl rfl ?_
        refine xi_ireturn kc_57_144 mr_57 rfl ?_
        exact kk x2 h (by omega) K
      · refine xi_cmf (pc' := 27) kc_57_24 rfl (xc_ge_f (X := x4.toInt) (Y := u10.toInt) rfl rfl (by omega)) ?_
        refine xi_iload_n (pc' := 28) (x := x1) kc_57_27 rfl rfl ?_
        by_cases c16 : x1.toInt ≤ 0
        · refine xi_ift (pc' := 143) kc_57_28 rfl (xc_le_t (X := x1.toInt) (Y := 0) rfl (by decide) (by omega)) ?_
          refine xi_iload_n (pc' := 144) (x := x2) kc_57_143 rfl rfl ?_
          refine xi_ireturn kc_57_144 mr_57 rfl ?_
          exact kk x2 h (by omega) K
        · refine xi_iff (pc' := 31) kc_57_28 rfl (xc_le_f (X := x1.toInt) (Y := 0) rfl (by decide) (by omega)) ?_
          refine xi_iconst (pc' := 32) (v := 0) kc_57_31 rfl rfl ?_
          refine xi_istore (pc' := 34) (lv' := [(5, .int 0), (0, .ref 115), (1, .int x1), (2, .int x2), (3, .int x3), (4, .int x4)]) kc_57_32 rfl rfl (xm_lt ml_57 rfl) ?_
          refine xi_iconst (pc' := 35) (v := 0) kc_57_34 rfl rfl ?_
          refine xi_istore (pc' := 37) (lv' := [(6, .int 0), (5, .int 0), (0, .ref 115), (1, .int x1), (2, .int x2), (3, .int x3), (4, .int x4)]) kc_57_35 rfl rfl (xm_lt ml_57 rfl) ?_
          have zc0 : (0 : Int32).toInt = 0 := by decide
          refine xw_lv (b := [(0, .ref 115), (1, .int x1), (2, .int x2), (3, .int x3), (4, .int x4), (5, .int 0), (6, .int 0)]) (lvS_cons (lvS_cons (lvS_cons (lvS_cons (lvS_cons (lvS_cons (lvS_cons (lvS_nil (show ([6, 5, 0, 1, 2, 3, 4] : List Nat).Nodup by decide)) rfl) rfl) rfl) rfl) rfl) rfl) rfl) ?_
          exact i1 x1 x2 x3 x4 0 0 h (by omega) (by omega) (by omega) (by omega) K (by omega)
    · intro x1 x2 x3 x4 x5 x6 h b1 b2 b4 b6 K hm
      have rx3 := xc_rng x3
      have rx5 := xc_rng x5
      refine xi_iload (pc' := 39) (x := x6) kc_57_37 rfl rfl ?_
      refine xi_aload_n (pc' := 40) (x := 115) kc_57_39 rfl rfl ?_
      obtain ⟨u1, u2, u3, u4, u5, u6, u7, u8, u9, u10, u11, u12, u13, bu1, bu2, bu3, bu4, bu5, bu6, bu7, bu8, bu9, bu10, bu11, bu12, bu13, A14⟩ := xq_115 K.1
      refine xi_virtual (mj := 42) (as := []) (st1 := [.int x6]) (lv0 := [(0, .ref 115)]) kc_57_40 rfl rfl rfl rfl rfl A14 (Nat.le_of_ble_eq_true rfl) (hJ _ _ _ _ (by decide)) (xm_le ml_42 rfl) rfl ?_
      refine xi_iconst (pc' := 1) (v := 1) kc_42_0 rfl rfl ?_
      refine xi_aload_n (pc' := 2) (x := 115) kc_42_1 rfl rfl ?_
      refine xi_getfield (pc' := 5) (v := .int u5) kc_42_2 rfl rfl rfl A14 rfl ?_
      refine xi_bipush (pc' := 7) (v := 6) kc_42_5 rfl rfl ?_
      by_cases c15 : 6 ≤ u5.toInt
      · refine xi_cmt (pc' := 17) kc_42_7 rfl (xc_ge_t (X := u5.toInt) (Y := 6) rfl (by decide) (by omega)) ?_
        refine xi_bipush (pc' := 19) (v := 6) kc_42_17 rfl rfl ?_
        refine xi_ishl (pc' := 20) (v := 64) kc_42_19 rfl rfl ?_
        refine xi_ireturn kc_42_20 mr_42 rfl ?_
        show xw J ov (d + 8) 57 (43, [(0, .ref 115), (1, .int x1), (2, .int x2), (3, .int x3), (4, .int x4), (5, .int x5), (6, .int x6)], [.int 64, .int x6], h) _
        by_cases c16 : 64 ≤ x6.toInt
        · refine xi_cmt (pc' := 83) kc_57_43 rfl (xc_ge_t (X := x6.toInt) (Y := 64) rfl (by decide) (by omega)) ?_
          refine xi_aload_n (pc' := 84) (x := 115) kc_57_83 rfl rfl ?_
          refine xi_getfield (pc' := 87) (v := .ref 153) kc_57_84 rfl rfl rfl A14 rfl ?_
          refine xi_iload (pc' := 89) (x := x4) kc_57_87 rfl rfl ?_
          obtain ⟨y17, A17, hy17, ry17⟩ := xk_arr K.1 xD_153
          obtain ⟨v18, ev18, bv18, dv18⟩ := xj_get hy17 ry17 (i := x4) (by omega) (by omega)
          refine xi_iaload (pc' := 90) (v := v18) kc_57_89 rfl A17 (by decide) rfl (xi_in (by omega) (by rw [hy17]; omega)) ev18 ?_
          refine xi_iload (pc' := 92) (x := x5) kc_57_90 rfl rfl ?_
          refine xi_iload_n (pc' := 93) (x := x1) kc_57_92 rfl rfl ?_
          refine xi_iload (pc' := 95) (x := x5) kc_57_93 rfl rfl ?_
          obtain ⟨v19, ev19⟩ : ∃ q : Int32, (x1 : Int32) - x5 = q := ⟨_, rfl⟩
          have rv19 := xc_rng v19
          refine xi_isub (pc' := 96) (v := v19) kc_57_95 rfl ev19 ?_
          by_cases c20 : x5.toInt ≤ v19.toInt
          · refine xi_cmt (pc' := 104) kc_57_96 rfl (xc_le_t (X := x5.toInt) (Y := v19.toInt) rfl rfl (by omega)) ?_
            refine xi_iload_n (pc' := 105) (x := x1) kc_57_104 rfl rfl ?_
            refine xi_iload (pc' := 107) (x := x5) kc_57_105 rfl rfl ?_
            refine xi_isub (pc' := 108) (v := v19) kc_57_107 rfl ev19 ?_
            obtain ⟨v21, ev21⟩ : ∃ q : Int32, (v18 : Int32) * v19 = q := ⟨_, rfl⟩
            have rv21 := xc_rng v21
            refine xi_imul (pc' := 109) (v := v21) kc_57_108 rfl ev21 ?_
            refine xi_istore (pc' := 111) (lv' := [(6, .int v21), (0, .ref 115), (1, .int x1), (2, .int x2), (3, .int x3), (4, .int x4), (5, .int x5)]) kc_57_109 rfl rfl (xm_lt ml_57 rfl) ?_
            refine xi_aload_n (pc' := 112) (x := 115) kc_57_111 rfl rfl ?_
            refine xi_getfield (pc' := 115) (v := .ref 154) kc_57_112 rfl rfl rfl A14 rfl ?_
            refine xi_iload (pc' := 117) (x := x4) kc_57_115 rfl rfl ?_
            obtain ⟨y22, A22, hy22, ry22⟩ := xk_arr K.1 xD_154
            obtain ⟨v23, ev23, bv23, dv23⟩ := xj_get hy22 ry22 (i := x4) (by omega) (by omega)
            refine xi_iaload (pc' := 118) (v := v23) kc_57_117 rfl A22 (by decide) rfl (xi_in (by omega) (by rw [hy22]; omega)) ev23 ?_
            by_cases c24 : v23.toInt = 0
            · refine xi_iff (pc' := 121) kc_57_118 rfl (xc_ne_f (X := v23.toInt) (Y := 0) rfl (by decide) (by omega)) ?_
              refine xi_iload_n (pc' := 122) (x := x2) kc_57_121 rfl rfl ?_
              by_cases c25 : x2.toInt < 0
              · refine xi_ift (pc' := 131) kc_57_122 rfl (xc_lt_t (X := x2.toInt) (Y := 0) rfl (by decide) (by omega)) ?_
                refine xi_iload (pc' := 133) (x := x4) kc_57_131 rfl rfl ?_
                refine xi_istore_n (pc' := 134) (lv' := [(2, .int x4), (6, .int v21), (0, .ref 115), (1, .int x1), (3, .int x3), (4, .int x4), (5, .int x5)]) kc_57_133 rfl rfl (xm_lt ml_57 rfl) ?_
                refine xi_iload (pc' := 136) (x := v21) kc_57_134 rfl rfl ?_
                refine xi_istore_n (pc' := 137) (lv' := [(3, .int v21), (2, .int x4), (6, .int v21), (0, .ref 115), (1, .int x1), (4, .int x4), (5, .int x5)]) kc_57_136 rfl rfl (xm_lt ml_57 rfl) ?_
                obtain ⟨v26, ev26⟩ : ∃ q : Int32, x4 + 1 = q := ⟨_, rfl⟩
                have zv26 : v26.toInt = (x4.toInt + 1) := by rw [← ev26]; exact (xz_add (X := x4.toInt) (Y := 1) rfl (by decide) (by omega) (by omega)).trans (by omega)
                refine xi_iinc (pc' := 140) (x := x4) (v := v26) (lv' := [(4, .int v26), (3, .int v21), (2, .int x4), (6, .int v21), (0, .ref 115), (1, .int x1), (5, .int x5)]) kc_57_137 rfl rfl ev26 rfl (xm_lt ml_57 rfl) ?_
                refine xi_goto (pc' := 18) kc_57_140 rfl ?_
                refine xw_lv (b := [(0, .ref 115), (1, .int x1), (2, .int x4), (3, .int v21), (4, .int v26)]) (lvS_cons (lvS_cons (lvS_cons (lvS_cons (lvS_cons (lvS_nil (show ([4, 3, 2, 6, 0, 1, 5] : List Nat).Nodup by decide)) rfl) rfl) rfl) rfl) rfl) ?_
                exact i0 x1 x4 v21 v26 h (by omega) (by omega) K (by omega)
              · refine xi_iff (pc' := 125) kc_57_122 rfl (xc_lt_f (X := x2.toInt) (Y := 0) rfl (by decide) (by omega)) ?_
                refine xi_iload (pc' := 127) (x := v21) kc_57_125 rfl rfl ?_
                refine xi_iload_n (pc' := 128) (x := x3) kc_57_127 rfl rfl ?_
                by_cases c27 : x3.toInt ≤ v21.toInt
                · refine xi_cmt (pc' := 137) kc_57_128 rfl (xc_ge_t (X := v21.toInt) (Y := x3.toInt) rfl rfl (by omega)) ?_
                  obtain ⟨v28, ev28⟩ : ∃ q : Int32, x4 + 1 = q := ⟨_, rfl⟩
                  have zv28 : v28.toInt = (x4.toInt + 1) := by rw [← ev28]; exact (xz_add (X := x4.toInt) (Y := 1) rfl (by decide) (by omega) (by omega)).trans (by omega)
                  refine xi_iinc (pc' := 140) (x := x4) (v := v28) (lv' := [(4, .int v28), (6, .int v21), (0, .ref 115), (1, .int x1), (2, .int x2), (3, .int x3), (5, .int x5)]) kc_57_137 rfl rfl ev28 rfl (xm_lt ml_57 rfl) ?_
                  refine xi_goto (pc' := 18) kc_57_140 rfl ?_
                  refine xw_lv (b := [(0, .ref 115), (1, .int x1), (2, .int x2), (3, .int x3), (4, .int v28)]) (lvS_cons (lvS_cons (lvS_cons (lvS_cons (lvS_cons (lvS_nil (show ([4, 6, 0, 1, 2, 3, 5] : List Nat).Nodup by decide)) rfl) rfl) rfl) rfl) rfl) ?_
                  exact i0 x1 x2 x3 v28 h (by omega) (by omega) K (by omega)
                · refine xi_cmf (pc' := 131) kc_57_128 rfl (xc_ge_f (X := v21.toInt) (Y := x3.toInt) rfl rfl (by omega)) ?_
                  refine xi_iload (pc' := 133) (x := x4) kc_57_131 rfl rfl ?_
                  refine xi_istore_n (pc' := 134) (lv' := [(2, .int x4), (6, .int v21), (0, .ref 115), (1, .int x1), (3, .int x3), (4, .int x4), (5, .int x5)]) kc_57_133 rfl rfl (xm_lt ml_57 rfl) ?_
                  refine xi_iload (pc' := 136) (x := v21) kc_57_134 rfl rfl ?_
                  refine xi_istore_n (pc' := 137) (lv' := [(3, .int v21), (2, .int x4), (6, .int v21), (0, .ref 115), (1, .int x1), (4, .int x4), (5, .int x5)]) kc_57_136 rfl rfl (xm_lt ml_57 rfl) ?_
                  obtain ⟨v29, ev29⟩ : ∃ q : Int32, x4 + 1 = q := ⟨_, rfl⟩
                  have zv29 : v29.toInt = (x4.toInt + 1) := by rw [← ev29]; exact (xz_add (X := x4.toInt) (Y := 1) rfl (by decide) (by omega) (by omega)).trans (by omega)
                  refine xi_iinc (pc' := 140) (x := x4) (v := v29) (lv' := [(4, .int v29), (3, .int v21), (2, .int x4), (6, .int v21), (0, .ref 115), (1, .int x1), (5, .int x5)]) kc_57_137 rfl rfl ev29 rfl (xm_lt ml_57 rfl) ?_
                  refine xi_goto (pc' := 18) kc_57_140 rfl ?_
                  refine xw_lv (b := [(0, .ref 115), (1, .int x1), (2, .int x4), (3, .int v21), (4, .int v29)]) (lvS_cons (lvS_cons (lvS_cons (lvS_cons (lvS_cons (lvS_nil (show ([4, 3, 2, 6, 0, 1, 5] : List Nat).Nodup by decide)) rfl) rfl) rfl) rfl) rfl) ?_
                  exact i0 x1 x4 v21 v29 h (by omega) (by omega) K (by omega)
            · refine xi_ift (pc' := 137) kc_57_118 rfl (xc_ne_t (X := v23.toInt) (Y := 0) rfl (by decide) (by omega)) ?_
              obtain ⟨v30, ev30⟩ : ∃ q : Int32, x4 + 1 = q := ⟨_, rfl⟩
              have zv30 : v30.toInt = (x4.toInt + 1) := by rw [← ev30]; exact (xz_add (X := x4.toInt) (Y := 1) rfl (by decide) (by omega) (by omega)).trans (by omega)
              refine xi_iinc (pc' := 140) (x := x4) (v := v30) (lv' := [(4, .int v30), (6, .int v21), (0, .ref 115), (1, .int x1), (2, .int x2), (3, .int x3), (5, .int x5)]) kc_57_137 rfl rfl ev30 rfl (xm_lt ml_57 rfl) ?_
              refine xi_goto (pc' := 18) kc_57_140 rfl ?_
              refine xw_lv (b := [(0, .ref 115), (1, .int x1), (2, .int x2), (3, .int x3), (4, .int v30)]) (lvS_cons (lvS_cons (lvS_cons (lvS_cons (lvS_cons (lvS_nil (show ([4, 6, 0, 1, 2, 3, 5] : List Nat).Nodup by decide)) rfl) rfl) rfl) rfl) rfl) ?_
              exact i0 x1 x2 x3 v30 h (by omega) (by omega) K (by omega)
          · refine xi_cmf (pc' := 99) kc_57_96 rfl (xc_le_f (X := x5.toInt) (Y := v19.toInt) rfl rfl (by omega)) ?_
            refine xi_iload (pc' := 101) (x := x5) kc_57_99 rfl rfl ?_
            refine xi_goto (pc' := 108) kc_57_101 rfl ?_
            obtain ⟨v31, ev31⟩ : ∃ q : Int32, (v18 : Int32) * x5 = q := ⟨_, rfl⟩
            have rv31 := xc_rng v31
            refine xi_imul (pc' := 109) (v := v31) kc_57_108 rfl ev31 ?_
            refine xi_istore (pc' := 111) (lv' := [(6, .int v31), (0, .ref 115), (1, .int x1), (2, .int x2), (3, .int x3), (4, .int x4), (5, .int x5)]) kc_57_109 rfl rfl (xm_lt ml_57 rfl) ?_
            refine xi_aload_n (pc' := 112) (x := 115) kc_57_111 rfl rfl ?_
            refine xi_getfield (pc' := 115) (v := .ref 154) kc_57_112 rfl rfl rfl A14 rfl ?_
            refine xi_iload (pc' := 117) (x := x4) kc_57_115 rfl rfl ?_
            obtain ⟨y32, A32, hy32, ry32⟩ := xk_arr K.1 xD_154
            obtain ⟨v33, ev33, bv33, dv33⟩ := xj_get hy32 ry32 (i := x4) (by omega) (by omega)
            refine xi_iaload (pc' := 118) (v := v33) kc_57_117 rfl A32 (by decide) rfl (xi_in (by omega) (by rw [hy32]; omega)) ev33 ?_
            by_cases c34 : v33.toInt = 0
            · refine xi_iff (pc' := 121) kc_57_118 rfl (xc_ne_f (X := v33.toInt) (Y := 0) rfl (by decide) (by omega)) ?_
              refine xi_iload_n (pc' := 122) (x := x2) kc_57_121 rfl rfl ?_
              by_cases c35 : x2.toInt < 0
              · refine xi_ift (pc' := 131) kc_57_122 rfl (xc_lt_t (X := x2.toInt) (Y := 0) rfl (by decide) (by omega)) ?_
                refine xi_iload (pc' := 133) (x := x4) kc_57_131 rfl rfl ?_
                refine xi_istore_n (pc' := 134) (lv' := [(2, .int x4), (6, .int v31), (0, .ref 115), (1, .int x1), (3, .int x3), (4, .int x4), (5, .int x5)]) kc_57_133 rfl rfl (xm_lt ml_57 rfl) ?_
                refine xi_iload (pc' := 136) (x := v31) kc_57_134 rfl rfl ?_
                refine xi_istore_n (pc' := 137) (lv' := [(3, .int v31), (2, .int x4), (6, .int v31), (0, .ref 115), (1, .int x1), (4, .int x4), (5, .int x5)]) kc_57_136 rfl rfl (xm_lt ml_57 rfl) ?_
                obtain ⟨v36, ev36⟩ : ∃ q : Int32, x4 + 1 = q := ⟨_, rfl⟩
                have zv36 : v36.toInt = (x4.toInt + 1) := by rw [← ev36]; exact (xz_add (X := x4.toInt) (Y := 1) rfl (by decide) (by omega) (by omega)).trans (by omega)
                refine xi_iinc (pc' := 140) (x := x4) (v := v36) (lv' := [(4, .int v36), (3, .int v31), (2, .int x4), (6, .int v31), (0, .ref 115), (1, .int x1), (5, .int x5)]) kc_57_137 rfl rfl ev36 rfl (xm_lt ml_57 rfl) ?_
                refine xi_goto (pc' := 18) kc_57_140 rfl ?_
                refine xw_lv (b := [(0, .ref 115), (1, .int x1), (2, .int x4), (3, .int v31), (4, .int v36)]) (lvS_cons (lvS_cons (lvS_cons (lvS_cons (lvS_cons (lvS_nil (show ([4, 3, 2, 6, 0, 1, 5] : List Nat).Nodup by decide)) rfl) rfl) rfl) rfl) rfl) ?_
                exact i0 x1 x4 v31 v36 h (by omega) (by omega) K (by omega)
              · refine xi_iff (pc' := 125) kc_57_122 rfl (xc_lt_f (X := x2.toInt) (Y := 0) rfl (by decide) (by omega)) ?_
                refine xi_iload (pc' := 127) (x := v31) kc_57_125 rfl rfl ?_
                refine xi_iload_n (pc' := 128) (x := x3) kc_57_127 rfl rfl ?_
                by_cases c37 : x3.toInt ≤ v31.toInt
                · refine xi_cmt (pc' := 137) kc_57_128 rfl (xc_ge_t (X := v31.toInt) (Y := x3.toInt) rfl rfl (by omega)) ?_
                  obtain ⟨v38, ev38⟩ : ∃ q : Int32, x4 + 1 = q := ⟨_, rfl⟩
                  have zv38 : v38.toInt = (x4.toInt + 1) := by rw [← ev38]; exact (xz_add (X := x4.toInt) (Y := 1) rfl (by decide) (by omega) (by omega)).trans (by omega)
                  refine xi_iinc (pc' := 140) (x := x4) (v := v38) (lv' := [(4, .int v38), (6, .int v31), (0, .ref 115), (1, .int x1), (2, .int x2), (3, .int x3), (5, .int x5)]) kc_57_137 rfl rfl ev38 rfl (xm_lt ml_57 rfl) ?_
                  refine xi_goto (pc' := 18) kc_57_140 rfl ?_
                  refine xw_lv (b := [(0, .ref 115), (1, .int x1), (2, .int x2), (3, .int x3), (4, .int v38)]) (lvS_cons (lvS_cons (lvS_cons (lvS_cons (lvS_cons (lvS_nil (show ([4, 6, 0, 1, 2, 3, 5] : List Nat).Nodup by decide)) rfl) rfl) rfl) rfl) rfl) ?_
                  exact i0 x1 x2 x3 v38 h (by omega) (by omega) K (by omega)
                · refine xi_cmf (pc' := 131) kc_57_128 rfl (xc_ge_f (X := v31.toInt) (Y := x3.toInt) rfl rfl (by omega)) ?_
                  refine xi_iload (pc' := 133) (x := x4) kc_57_131 rfl rfl ?_
                  refine xi_istore_n (pc' := 134) (lv' := [(2, .int x4), (6, .int v31), (0, .ref 115), (1, .int x1), (3, .int x3), (4, .int x4), (5, .int x5)]) kc_57_133 rfl rfl (xm_lt ml_57 rfl) ?_
                  refine xi_iload (pc' := 136) (x := v31) kc_57_134 rfl rfl ?_
                  refine xi_istore_n (pc' := 137) (lv' := [(3, .int v31), (2, .int x4), (6, .int v31), (0, .ref 115), (1, .int x1), (4, .int x4), (5, .int x5)]) kc_57_136 rfl rfl (xm_lt ml_57 rfl) ?_
                  obtain ⟨v39, ev39⟩ : ∃ q : Int32, x4 + 1 = q := ⟨_, rfl⟩
                  have zv39 : v39.toInt = (x4.toInt + 1) := by rw [← ev39]; exact (xz_add (X := x4.toInt) (Y := 1) rfl (by decide) (by omega) (by omega)).trans (by omega)
                  refine xi_iinc (pc' := 140) (x := x4) (v := v39) (lv' := [(4, .int v39), (3, .int v31), (2, .int x4), (6, .int v31), (0, .ref 115), (1, .int x1), (5, .int x5)]) kc_57_137 rfl rfl ev39 rfl (xm_lt ml_57 rfl) ?_
                  refine xi_goto (pc' := 18) kc_57_140 rfl ?_
                  refine xw_lv (b := [(0, .ref 115), (1, .int x1), (2, .int x4), (3, .int v31), (4, .int v39)]) (lvS_cons (lvS_cons (lvS_cons (lvS_cons (lvS_cons (lvS_nil (show ([4, 3, 2, 6, 0, 1, 5] : List Nat).Nodup by decide)) rfl) rfl) rfl) rfl) rfl) ?_
                  exact i0 x1 x4 v31 v39 h (by omega) (by omega) K (by omega)
            · refine xi_ift (pc' := 137) kc_57_118 rfl (xc_ne_t (X := v33.toInt) (Y := 0) rfl (by decide) (by omega)) ?_
              obtain ⟨v40, ev40⟩ : ∃ q : Int32, x4 + 1 = q := ⟨_, rfl⟩
              have zv40 : v40.toInt = (x4.toInt + 1) := by rw [← ev40]; exact (xz_add (X := x4.toInt) (Y := 1) rfl (by decide) (by omega) (by omega)).trans (by omega)
              refine xi_iinc (pc' := 140) (x := x4) (v := v40) (lv' := [(4, .int v40), (6, .int v31), (0, .ref 115), (1, .int x1), (2, .int x2), (3, .int x3), (5, .int x5)]) kc_57_137 rfl rfl ev40 rfl (xm_lt ml_57 rfl) ?_
              refine xi_goto (pc' := 18) kc_57_140 rfl ?_
              refine xw_lv (b := [(0, .ref 115), (1, .int x1), (2, .int x2), (3, .int x3), (4, .int v40)]) (lvS_cons (lvS_cons (lvS_cons (lvS_cons (lvS_cons (lvS_nil (show ([4, 6, 0, 1, 2, 3, 5] : List Nat).Nodup by decide)) rfl) rfl) rfl) rfl) rfl) ?_
              exact i0 x1 x2 x3 v40 h (by omega) (by omega) K (by omega)
        · refine xi_cmf (pc' := 46) kc_57_43 rfl (xc_ge_f (X := x6.toInt) (Y := 64) rfl (by decide) (by omega)) ?_
          refine xi_iload (pc' := 48) (x := x5) kc_57_46 rfl rfl ?_
          refine xi_aload_n (pc' := 49) (x := 115) kc_57_48 rfl rfl ?_
          refine xi_iload (pc' := 51) (x := x6) kc_57_49 rfl rfl ?_
          refine xi_virtual (mj := 53) (as := [.int x6]) (st1 := [.int x5]) (lv0 := [(0, .ref 115), (1, .int x6)]) kc_57_51 rfl rfl rfl rfl rfl A14 (Nat.le_of_ble_eq_true rfl) (hJ _ _ _ _ (by decide)) (xm_le ml_53 rfl) rfl ?_
          refine mt_53_0 hJ hov1 hov2 (d := d + 6) (x1 := x6) K.1 (by first | omega | decide) (fun r41 hh42 br41 K43 => ?_)
          have K44 := xk_tr K K43 (xsb_ok _ _ (by decide +kernel))
          obtain ⟨u45, u46, u47, u48, u49, u50, u51, u52, u53, u54, u55, u56, u57, bu45, bu46, bu47, bu48, bu49, bu50, bu51, bu52, bu53, bu54, bu55, bu56, bu57, A58⟩ := xq_115 K44.1
          have e59 : u2 = u46 := xk_eqi (q := 1) K43 (by decide +kernel) A14 A58 rfl rfl
          subst e59
          have e60 : u5 = u49 := xk_eqi (q := 23) K43 (by decide +kernel) A14 A58 rfl rfl
          subst e60
          have e61 : u8 = u52 := xk_eqi (q := 34) K43 (by decide +kernel) A14 A58 rfl rfl
          subst e61
          have e62 : u6 = u50 := xk_eqi (q := 32) K43 (by decide +kernel) A14 A58 rfl rfl
          subst e62
          show xw J ov (d + 8) 57 (54, [(0, .ref 115), (1, .int x1), (2, .int x2), (3, .int x3), (4, .int x4), (5, .int x5), (6, .int x6)], [.int r41, .int x5], hh42) _
          by_cases c63 : r41.toInt = 0
          · refine xi_ift (pc' := 73) kc_57_54 rfl (xc_eq_t (X := r41.toInt) (Y := 0) rfl (by decide) (by omega)) ?_
            refine xi_iconst (pc' := 74) (v := 0) kc_57_73 rfl rfl ?_
            obtain ⟨v64, ev64⟩ : ∃ q : Int32, x5 + 0 = q := ⟨_, rfl⟩
            have zv64 : v64.toInt = x5.toInt := by rw [← ev64]; exact (xz_add (X := x5.toInt) (Y := 0) rfl (by decide) (by omega) (by omega)).trans (by omega)
            refine xi_iadd (pc' := 75) (v := v64) kc_57_74 rfl ev64 ?_
            refine xi_istore (pc' := 77) (lv' := [(5, .int v64), (0, .ref 115), (1, .int x1), (2, .int x2), (3, .int x3), (4, .int x4), (6, .int x6)]) kc_57_75 rfl rfl (xm_lt ml_57 rfl) ?_
            obtain ⟨v65, ev65⟩ : ∃ q : Int32, x6 + 1 = q := ⟨_, rfl⟩
            have zv65 : v65.toInt = (x6.toInt + 1) := by rw [← ev65]; exact (xz_add (X := x6.toInt) (Y := 1) rfl (by decide) (by omega) (by omega)).trans (by omega)
            refine xi_iinc (pc' := 80) (x := x6) (v := v65) (lv' := [(6, .int v65), (5, .int v64), (0, .ref 115), (1, .int x1), (2, .int x2), (3, .int x3), (4, .int x4)]) kc_57_77 rfl rfl ev65 rfl (xm_lt ml_57 rfl) ?_
            refine xi_goto (pc' := 37) kc_57_80 rfl ?_
            refine xw_lv (b := [(0, .ref 115), (1, .int x1), (2, .int x2), (3, .int x3), (4, .int x4), (5, .int v64), (6, .int v65)]) (lvS_cons (lvS_cons (lvS_cons (lvS_cons (lvS_cons (lvS_cons (lvS_cons (lvS_nil (show ([6, 5, 0, 1, 2, 3, 4] : List Nat).Nodup by decide)) rfl) rfl) rfl) rfl) rfl) rfl) rfl) ?_
            exact i1 x1 x2 x3 x4 v64 v65 hh42 (by omega) (by omega) (by omega) (by omega) K44 (by omega)
          · refine xi_iff (pc' := 57) kc_57_54 rfl (xc_eq_f (X := r41.toInt) (Y := 0) rfl (by decide) (by omega)) ?_
            refine xi_aload_n (pc' := 58) (x := 115) kc_57_57 rfl rfl ?_
            refine xi_iload (pc' := 60) (x := x4) kc_57_58 rfl rfl ?_
            refine xi_iload (pc' := 62) (x := x6) kc_57_60 rfl rfl ?_
            refine xi_virtual (mj := 54) (as := [.int x4, .int x6]) (st1 := [.int x5]) (lv0 := [(0, .ref 115), (1, .int x4), (2, .int x6)]) kc_57_62 rfl rfl rfl rfl rfl A58 (Nat.le_of_ble_eq_true rfl) (hJ _ _ _ _ (by decide)) (xm_le ml_54 rfl) rfl ?_
            refine xi_aload_n (pc' := 1) (x := 115) kc_54_0 rfl rfl ?_
            refine xi_getfield (pc' := 4) (v := .ref 152) kc_54_1 rfl rfl rfl A58 rfl ?_
            refine xi_iload_n (pc' := 5) (x := x4) kc_54_4 rfl rfl ?_
            obtain ⟨y66, A66, hy66, ry66⟩ := xk_arr K44.1 xD_152
            obtain ⟨v67, ev67, bv67, dv67⟩ := xj_get hy66 ry66 (i := x4) (by omega) (by omega)
            refine xi_iaload (pc' := 6) (v := v67) kc_54_5 rfl A66 (by decide) rfl (xi_in (by omega) (by rw [hy66]; omega)) ev67 ?_
            refine xi_iload_n (pc' := 7) (x := x6) kc_54_6 rfl rfl ?_
            obtain ⟨v68, ev68⟩ : ∃ q : Int32, (v67 : Int32) &&& x6 = q := ⟨_, rfl⟩
            have rv68 := xc_rng v68
            refine xi_iand (pc' := 8) (v := v68) kc_54_7 rfl ev68 ?_
            by_cases c69 : v68.toInt = 0
            · refine xi_ift (pc' := 15) kc_54_8 rfl (xc_eq_t (X := v68.toInt) (Y := 0) rfl (by decide) (by omega)) ?_
              refine xi_iconst (pc' := 16) (v := 2) kc_54_15 rfl rfl ?_
              refine xi_ireturn kc_54_16 mr_54 rfl ?_
              show xw J ov (d + 8) 57 (65, [(0, .ref 115), (1, .int x1), (2, .int x2), (3, .int x3), (4, .int x4), (5, .int x5), (6, .int x6)], [.int 2, .int x5], hh42) _
              refine xi_iconst (pc' := 66) (v := 1) kc_57_65 rfl rfl ?_
              refine xi_cmt (pc' := 73) kc_57_66 rfl rfl ?_
              refine xi_iconst (pc' := 74) (v := 0) kc_57_73 rfl rfl ?_
              obtain ⟨v70, ev70⟩ : ∃ q : Int32, x5 + 0 = q := ⟨_, rfl⟩
              have zv70 : v70.toInt = x5.toInt := by rw [← ev70]; exact (xz_add (X := x5.toInt) (Y := 0) rfl (by decide) (by omega) (by omega)).trans (by omega)
              refine xi_iadd (pc' := 75) (v := v70) kc_57_74 rfl ev70 ?_
              refine xi_istore (pc' := 77) (lv' := [(5, .int v70), (0, .ref 115), (1, .int x1), (2, .int x2), (3, .int x3), (4, .int x4), (6, .int x6)]) kc_57_75 rfl rfl (xm_lt ml_57 rfl) ?_
              obtain ⟨v71, ev71⟩ : ∃ q : Int32, x6 + 1 = q := ⟨_, rfl⟩
              have zv71 : v71.toInt = (x6.toInt + 1) := by rw [← ev71]; exact (xz_add (X := x6.toInt) (Y := 1) rfl (by decide) (by omega) (by omega)).trans (by omega)
              refine xi_iinc (pc' := 80) (x := x6) (v := v71) (lv' := [(6, .int v71), (5, .int v70), (0, .ref 115), (1, .int x1), (2, .int x2), (3, .int x3), (4, .int x4)]) kc_57_77 rfl rfl ev71 rfl (xm_lt ml_57 rfl) ?_
              refine xi_goto (pc' := 37) kc_57_80 rfl ?_
              refine xw_lv (b := [(0, .ref 115), (1, .int x1), (2, .int x2), (3, .int x3), (4, .int x4), (5, .int v70), (6, .int v71)]) (lvS_cons (lvS_cons (lvS_cons (lvS_cons (lvS_cons (lvS_cons (lvS_cons (lvS_nil (show ([6, 5, 0, 1, 2, 3, 4] : List Nat).Nodup by decide)) rfl) rfl) rfl) rfl) rfl) rfl) rfl) ?_
              exact i1 x1 x2 x3 x4 v70 v71 hh42 (by omega) (by omega) (by omega) (by omega) K44 (by omega)
            · refine xi_iff (pc' := 11) kc_54_8 rfl (xc_eq_f (X := v68.toInt) (Y := 0) rfl (by decide) (by omega)) ?_
              refine xi_iconst (pc' := 12) (v := 1) kc_54_11 rfl rfl ?_
              refine xi_goto (pc' := 16) kc_54_12 rfl ?_
              refine xi_ireturn kc_54_16 mr_54 rfl ?_
              show xw J ov (d + 8) 57 (65, [(0, .ref 115), (1, .int x1), (2, .int x2), (3, .int x3), (4, .int x4), (5, .int x5), (6, .int x6)], [.int 1, .int x5], hh42) _
              refine xi_iconst (pc' := 66) (v := 1) kc_57_65 rfl rfl ?_
              refine xi_cmf (pc' := 69) kc_57_66 rfl rfl ?_
              refine xi_iconst (pc' := 70) (v := 1) kc_57_69 rfl rfl ?_
              refine xi_goto (pc' := 74) kc_57_70 rfl ?_
              obtain ⟨v72, ev72⟩ : ∃ q : Int32, (x5 : Int32) + 1 = q := ⟨_, rfl⟩
              have rv72 := xc_rng v72
              refine xi_iadd (pc' := 75) (v := v72) kc_57_74 rfl ev72 ?_
              refine xi_istore (pc' := 77) (lv' := [(5, .int v72), (0, .ref 115), (1, .int x1), (2, .int x2), (3, .int x3), (4, .int x4), (6, .int x6)]) kc_57_75 rfl rfl (xm_lt ml_57 rfl) ?_
              obtain ⟨v73, ev73⟩ : ∃ q : Int32, x6 + 1 = q := ⟨_, rfl⟩
              have zv73 : v73.toInt = (x6.toInt + 1) := by rw [← ev73]; exact (xz_add (X := x6.toInt) (Y := 1) rfl (by decide) (by omega) (by omega)).trans (by omega)
              refine xi_iinc (pc' := 80) (x := x6) (v := v73) (lv' := [(6, .int v73), (5, .int v72), (0, .ref 115), (1, .int x1), (2, .int x2), (3, .int x3), (4, .int x4)]) kc_57_77 rfl rfl ev73 rfl (xm_lt ml_57 rfl) ?_
              refine xi_goto (pc' := 37) kc_57_80 rfl ?_
              refine xw_lv (b := [(0, .ref 115), (1, .int x1), (2, .int x2), (3, .int x3), (4, .int x4), (5, .int v72), (6, .int v73)]) (lvS_cons (lvS_cons (lvS_cons (lvS_cons (lvS_cons (lvS_cons (lvS_cons (lvS_nil (show ([6, 5, 0, 1, 2, 3, 4] : List Nat).Nodup by decide)) rfl) rfl) rfl) rfl) rfl) rfl) rfl) ?_
              exact i1 x1 x2 x3 x4 v72 v73 hh42 (by omega) (by omega) (by omega) (by omega) K44 (by omega)
      · refine xi_cmf (pc' := 10) kc_42_7 rfl (xc_ge_f (X := u5.toInt) (Y := 6) rfl (by decide) (by omega)) ?_
        refine xi_aload_n (pc' := 11) (x := 115) kc_42_10 rfl rfl ?_
        refine xi_getfield (pc' := 14) (v := .int u5) kc_42_11 rfl rfl rfl A14 rfl ?_
        refine xi_goto (pc' := 19) kc_42_14 rfl ?_
        obtain ⟨v74, ev74⟩ : ∃ q : Int32, (1 : Int32) <<< (u5 &&& 31) = q := ⟨_, rfl⟩
        have rv74 := xc_rng v74
        have bv74 : 1 ≤ v74.toInt ∧ v74.toInt ≤ 64 := by rw [← ev74]; exact xj_shl6 (by omega) (by omega)
        refine xi_ishl (pc' := 20) (v := v74) kc_42_19 rfl ev74 ?_
        refine xi_ireturn kc_42_20 mr_42 rfl ?_
        show xw J ov (d + 8) 57 (43, [(0, .ref 115), (1, .int x1), (2, .int x2), (3, .int x3), (4, .int x4), (5, .int x5), (6, .int x6)], [.int v74, .int x6], h) _
        by_cases c75 : v74.toInt ≤ x6.toInt
        · refine xi_cmt (pc' := 83) kc_57_43 rfl (xc_ge_t (X := x6.toInt) (Y := v74.toInt) rfl rfl (by omega)) ?_
          refine xi_aload_n (pc' := 84) (x := 115) kc_57_83 rfl rfl ?_
          refine xi_getfield (pc' := 87) (v := .ref 153) kc_57_84 rfl rfl rfl A14 rfl ?_
          refine xi_iload (pc' := 89) (x := x4) kc_57_87 rfl rfl ?_
          obtain ⟨y76, A76, hy76, ry76⟩ := xk_arr K.1 xD_153
          obtain ⟨v77, ev77, bv77, dv77⟩ := xj_get hy76 ry76 (i := x4) (by omega) (by omega)
          refine xi_iaload (pc' := 90) (v := v77) kc_57_89 rfl A76 (by decide) rfl (xi_in (by omega) (by rw [hy76]; omega)) ev77 ?_
          refine xi_iload (pc' := 92) (x := x5) kc_57_90 rfl rfl ?_
          refine xi_iload_n (pc' := 93) (x := x1) kc_57_92 rfl rfl ?_
          refine xi_iload (pc' := 95) (x := x5) kc_57_93 rfl rfl ?_
          obtain ⟨v78, ev78⟩ : ∃ q : Int32, (x1 : Int32) - x5 = q := ⟨_, rfl⟩
          have rv78 := xc_rng v78
          refine xi_isub (pc' := 96) (v := v78) kc_57_95 rfl ev78 ?_
          by_cases c79 : x5.toInt ≤ v78.toInt
          · refine xi_cmt (pc' := 104) kc_57_96 rfl (xc_le_t (X := x5.toInt) (Y := v78.toInt) rfl rfl (by omega)) ?_
            refine xi_iload_n (pc' := 105) (x := x1) kc_57_104 rfl rfl ?_
            refine xi_iload (pc' := 107) (x := x5) kc_57_105 rfl rfl ?_
            refine xi_isub (pc' := 108) (v := v78) kc_57_107 rfl ev78 ?_
            obtain ⟨v80, ev80⟩ : ∃ q : Int32, (v77 : Int32) * v78 = q := ⟨_, rfl⟩
            have rv80 := xc_rng v80
            refine xi_imul (pc' := 109) (v := v80) kc_57_108 rfl ev80 ?_
            refine xi_istore (pc' := 111) (lv' := [(6, .int v80), (0, .ref 115), (1, .int x1), (2, .int x2), (3, .int x3), (4, .int x4), (5, .int x5)]) kc_57_109 rfl rfl (xm_lt ml_57 rfl) ?_
            refine xi_aload_n (pc' := 112) (x := 115) kc_57_111 rfl rfl ?_
            refine xi_getfield (pc' := 115) (v := .ref 154) kc_57_112 rfl rfl rfl A14 rfl ?_
            refine xi_iload (pc' := 117) (x := x4) kc_57_115 rfl rfl ?_
            obtain ⟨y81, A81, hy81, ry81⟩ := xk_arr K.1 xD_154
            obtain ⟨v82, ev82, bv82, dv82⟩ := xj_get hy81 ry81 (i := x4) (by omega) (by omega)
            refine xi_iaload (pc' := 118) (v := v82) kc_57_117 rfl A81 (by decide) rfl (xi_in (by omega) (by rw [hy81]; omega)) ev82 ?_
            by_cases c83 : v82.toInt = 0
            · refine xi_iff (pc' := 121) kc_57_118 rfl (xc_ne_f (X := v82.toInt) (Y := 0) rfl (by decide) (by omega)) ?_
              refine xi_iload_n (pc' := 122) (x := x2) kc_57_121 rfl rfl ?_
              by_cases c84 : x2.toInt < 0
              · refine xi_ift (pc' := 131) kc_57_122 rfl (xc_lt_t (X := x2.toInt) (Y := 0) rfl (by decide) (by omega)) ?_
                refine xi_iload (pc' := 133) (x := x4) kc_57_131 rfl rfl ?_
                refine xi_istore_n (pc' := 134) (lv' := [(2, .int x4), (6, .int v80), (0, .ref 115), (1, .int x1), (3, .int x3), (4, .int x4), (5, .int x5)]) kc_57_133 rfl rfl (xm_lt ml_57 rfl) ?_
                refine xi_iload (pc' := 136) (x := v80) kc_57_134 rfl rfl ?_
                refine xi_istore_n (pc' := 137) (lv' := [(3, .int v80), (2, .int x4), (6, .int v80), (0, .ref 115), (1, .int x1), (4, .int x4), (5, .int x5)]) kc_57_136 rfl rfl (xm_lt ml_57 rfl) ?_
                obtain ⟨v85, ev85⟩ : ∃ q : Int32, x4 + 1 = q := ⟨_, rfl⟩
                have zv85 : v85.toInt = (x4.toInt + 1) := by rw [← ev85]; exact (xz_add (X := x4.toInt) (Y := 1) rfl (by decide) (by omega) (by omega)).trans (by omega)
                refine xi_iinc (pc' := 140) (x := x4) (v := v85) (lv' := [(4, .int v85), (3, .int v80), (2, .int x4), (6, .int v80), (0, .ref 115), (1, .int x1), (5, .int x5)]) kc_57_137 rfl rfl ev85 rfl (xm_lt ml_57 rfl) ?_
                refine xi_goto (pc' := 18) kc_57_140 rfl ?_
                refine xw_lv (b := [(0, .ref 115), (1, .int x1), (2, .int x4), (3, .int v80), (4, .int v85)]) (lvS_cons (lvS_cons (lvS_cons (lvS_cons (lvS_cons (lvS_nil (show ([4, 3, 2, 6, 0, 1, 5] : List Nat).Nodup by decide)) rfl) rfl) rfl) rfl) rfl) ?_
                exact i0 x1 x4 v80 v85 h (by omega) (by omega) K (by omega)
              · refine xi_iff (pc' := 125) kc_57_122 rfl (xc_lt_f (X := x2.toInt) (Y := 0) rfl (by decide) (by omega)) ?_
                refine xi_iload (pc' := 127) (x := v80) kc_57_125 rfl rfl ?_
                refine xi_iload_n (pc' := 128) (x := x3) kc_57_127 rfl rfl ?_
                by_cases c86 : x3.toInt ≤ v80.toInt
                · refine xi_cmt (pc' := 137) kc_57_128 rfl (xc_ge_t (X := v80.toInt) (Y := x3.toInt) rfl rfl (by omega)) ?_
                  obtain ⟨v87, ev87⟩ : ∃ q : Int32, x4 + 1 = q := ⟨_, rfl⟩
                  have zv87 : v87.toInt = (x4.toInt + 1) := by rw [← ev87]; exact (xz_add (X := x4.toInt) (Y := 1) rfl (by decide) (by omega) (by omega)).trans (by omega)
                  refine xi_iinc (pc' := 140) (x := x4) (v := v87) (lv' := [(4, .int v87), (6, .int v80), (0, .ref 115), (1, .int x1), (2, .int x2), (3, .int x3), (5, .int x5)]) kc_57_137 rfl rfl ev87 rfl (xm_lt ml_57 rfl) ?_
                  refine xi_goto (pc' := 18) kc_57_140 rfl ?_
                  refine xw_lv (b := [(0, .ref 115), (1, .int x1), (2, .int x2), (3, .int x3), (4, .int v87)]) (lvS_cons (lvS_cons (lvS_cons (lvS_cons (lvS_cons (lvS_nil (show ([4, 6, 0, 1, 2, 3, 5] : List Nat).Nodup by decide)) rfl) rfl) rfl) rfl) rfl) ?_
                  exact i0 x1 x2 x3 v87 h (by omega) (by omega) K (by omega)
                · refine xi_cmf (pc' := 131) kc_57_128 rfl (xc_ge_f (X := v80.toInt) (Y := x3.toInt) rfl rfl (by omega)) ?_
                  refine xi_iload (pc' := 133) (x := x4) kc_57_131 rfl rfl ?_
                  refine xi_istore_n (pc' := 134) (lv' := [(2, .int x4), (6, .int v80), (0, .ref 115), (1, .int x1), (3, .int x3), (4, .int x4), (5, .int x5)]) kc_57_133 rfl rfl (xm_lt ml_57 rfl) ?_
                  refine xi_iload (pc' := 136) (x := v80) kc_57_134 rfl rfl ?_
                  refine xi_istore_n (pc' := 137) (lv' := [(3, .int v80), (2, .int x4), (6, .int v80), (0, .ref 115), (1, .int x1), (4, .int x4), (5, .int x5)]) kc_57_136 rfl rfl (xm_lt ml_57 rfl) ?_
                  obtain ⟨v88, ev88⟩ : ∃ q : Int32, x4 + 1 = q := ⟨_, rfl⟩
                  have zv88 : v88.toInt = (x4.toInt + 1) := by rw [← ev88]; exact (xz_add (X := x4.toInt) (Y := 1) rfl (by decide) (by omega) (by omega)).trans (by omega)
                  refine xi_iinc (pc' := 140) (x := x4) (v := v88) (lv' := [(4, .int v88), (3, .int v80), (2, .int x4), (6, .int v80), (0, .ref 115), (1, .int x1), (5, .int x5)]) kc_57_137 rfl rfl ev88 rfl (xm_lt ml_57 rfl) ?_
                  refine xi_goto (pc' := 18) kc_57_140 rfl ?_
                  refine xw_lv (b := [(0, .ref 115), (1, .int x1), (2, .int x4), (3, .int v80), (4, .int v88)]) (lvS_cons (lvS_cons (lvS_cons (lvS_cons (lvS_cons (lvS_nil (show ([4, 3, 2, 6, 0, 1, 5] : List Nat).Nodup by decide)) rfl) rfl) rfl) rfl) rfl) ?_
                  exact i0 x1 x4 v80 v88 h (by omega) (by omega) K (by omega)
            · refine xi_ift (pc' := 137) kc_57_118 rfl (xc_ne_t (X := v82.toInt) (Y := 0) rfl (by decide) (by omega)) ?_
              obtain ⟨v89, ev89⟩ : ∃ q : Int32, x4 + 1 = q := ⟨_, rfl⟩
              have zv89 : v89.toInt = (x4.toInt + 1) := by rw [← ev89]; exact (xz_add (X := x4.toInt) (Y := 1) rfl (by decide) (by omega) (by omega)).trans (by omega)
              refine xi_iinc (pc' := 140) (x := x4) (v := v89) (lv' := [(4, .int v89), (6, .int v80), (0, .ref 115), (1, .int x1), (2, .int x2), (3, .int x3), (5, .int x5)]) kc_57_137 rfl rfl ev89 rfl (xm_lt ml_57 rfl) ?_
              refine xi_goto (pc' := 18) kc_57_140 rfl ?_
              refine xw_lv (b := [(0, .ref 115), (1, .int x1), (2, .int x2), (3, .int x3), (4, .int v89)]) (lvS_cons (lvS_cons (lvS_cons (lvS_cons (lvS_cons (lvS_nil (show ([4, 6, 0, 1, 2, 3, 5] : List Nat).Nodup by decide)) rfl) rfl) rfl) rfl) rfl) ?_
              exact i0 x1 x2 x3 v89 h (by omega) (by omega) K (by omega)
          · refine xi_cmf (pc' := 99) kc_57_96 rfl (xc_le_f (X := x5.toInt) (Y := v78.toInt) rfl rfl (by omega)) ?_
            refine xi_iload (pc' := 101) (x := x5) kc_57_99 rfl rfl ?_
            refine xi_goto (pc' := 108) kc_57_101 rfl ?_
            obtain ⟨v90, ev90⟩ : ∃ q : Int32, (v77 : Int32) * x5 = q := ⟨_, rfl⟩
            have rv90 := xc_rng v90
            refine xi_imul (pc' := 109) (v := v90) kc_57_108 rfl ev90 ?_
            refine xi_istore (pc' := 111) (lv' := [(6, .int v90), (0, .ref 115), (1, .int x1), (2, .int x2), (3, .int x3), (4, .int x4), (5, .int x5)]) kc_57_109 rfl rfl (xm_lt ml_57 rfl) ?_
            refine xi_aload_n (pc' := 112) (x := 115) kc_57_111 rfl rfl ?_
            refine xi_getfield (pc' := 115) (v := .ref 154) kc_57_112 rfl rfl rfl A14 rfl ?_
            refine xi_iload (pc' := 117) (x := x4) kc_57_115 rfl rfl ?_
            obtain ⟨y91, A91, hy91, ry91⟩ := xk_arr K.1 xD_154
            obtain ⟨v92, ev92, bv92, dv92⟩ := xj_get hy91 ry91 (i := x4) (by omega) (by omega)
            refine xi_iaload (pc' := 118) (v := v92) kc_57_117 rfl A91 (by decide) rfl (xi_in (by omega) (by rw [hy91]; omega)) ev92 ?_
            by_cases c93 : v92.toInt = 0
            · refine xi_iff (pc' := 121) kc_57_118 rfl (xc_ne_f (X := v92.toInt) (Y := 0) rfl (by decide) (by omega)) ?_
              refine xi_iload_n (pc' := 122) (x := x2) kc_57_121 rfl rfl ?_
              by_cases c94 : x2.toInt < 0
              · refine xi_ift (pc' := 131) kc_57_122 rfl (xc_lt_t (X := x2.toInt) (Y := 0) rfl (by decide) (by omega)) ?_
                refine xi_iload (pc' := 133) (x := x4) kc_57_131 rfl rfl ?_
                refine xi_istore_n (pc' := 134) (lv' := [(2, .int x4), (6, .int v90), (0, .ref 115), (1, .int x1), (3, .int x3), (4, .int x4), (5, .int x5)]) kc_57_133 rfl rfl (xm_lt ml_57 rfl) ?_
                refine xi_iload (pc' := 136) (x := v90) kc_57_134 rfl rfl ?_
                refine xi_istore_n (pc' := 137) (lv' := [(3, .int v90), (2, .int x4), (6, .int v90), (0, .ref 115), (1, .int x1), (4, .int x4), (5, .int x5)]) kc_57_136 rfl rfl (xm_lt ml_57 rfl) ?_
                obtain ⟨v95, ev95⟩ : ∃ q : Int32, x4 + 1 = q := ⟨_, rfl⟩
                have zv95 : v95.toInt = (x4.toInt + 1) := by rw [← ev95]; exact (xz_add (X := x4.toInt) (Y := 1) rfl (by decide) (by omega) (by omega)).trans (by omega)
                refine xi_iinc (pc' := 140) (x := x4) (v := v95) (lv' := [(4, .int v95), (3, .int v90), (2, .int x4), (6, .int v90), (0, .ref 115), (1, .int x1), (5, .int x5)]) kc_57_137 rfl rfl ev95 rfl (xm_lt ml_57 rfl) ?_
                refine xi_goto (pc' := 18) kc_57_140 rfl ?_
                refine xw_lv (b := [(0, .ref 115), (1, .int x1), (2, .int x4), (3, .int v90), (4, .int v95)]) (lvS_cons (lvS_cons (lvS_cons (lvS_cons (lvS_cons (lvS_nil (show ([4, 3, 2, 6, 0, 1, 5] : List Nat).Nodup by decide)) rfl) rfl) rfl) rfl) rfl) ?_
                exact i0 x1 x4 v90 v95 h (by omega) (by omega) K (by omega)
              · refine xi_iff (pc' := 125) kc_57_122 rfl (xc_lt_f (X := x2.toInt) (Y := 0) rfl (by decide) (by omega)) ?_
                refine xi_iload (pc' := 127) (x := v90) kc_57_125 rfl rfl ?_
                refine xi_iload_n (pc' := 128) (x := x3) kc_57_127 rfl rfl ?_
                by_cases c96 : x3.toInt ≤ v90.toInt
                · refine xi_cmt (pc' := 137) kc_57_128 rfl (xc_ge_t (X := v90.toInt) (Y := x3.toInt) rfl rfl (by omega)) ?_
                  obtain ⟨v97, ev97⟩ : ∃ q : Int32, x4 + 1 = q := ⟨_, rfl⟩
                  have zv97 : v97.toInt = (x4.toInt + 1) := by rw [← ev97]; exact (xz_add (X := x4.toInt) (Y := 1) rfl (by decide) (by omega) (by omega)).trans (by omega)
                  refine xi_iinc (pc' := 140) (x := x4) (v := v97) (lv' := [(4, .int v97), (6, .int v90), (0, .ref 115), (1, .int x1), (2, .int x2), (3, .int x3), (5, .int x5)]) kc_57_137 rfl rfl ev97 rfl (xm_lt ml_57 rfl) ?_
                  refine xi_goto (pc' := 18) kc_57_140 rfl ?_
                  refine xw_lv (b := [(0, .ref 115), (1, .int x1), (2, .int x2), (3, .int x3), (4, .int v97)]) (lvS_cons (lvS_cons (lvS_cons (lvS_cons (lvS_cons (lvS_nil (show ([4, 6, 0, 1, 2, 3, 5] : List Nat).Nodup by decide)) rfl) rfl) rfl) rfl) rfl) ?_
                  exact i0 x1 x2 x3 v97 h (by omega) (by omega) K (by omega)
                · refine xi_cmf (pc' := 131) kc_57_128 rfl (xc_ge_f (X := v90.toInt) (Y := x3.toInt) rfl rfl (by omega)) ?_
                  refine xi_iload (pc' := 133) (x := x4) kc_57_131 rfl rfl ?_
                  refine xi_istore_n (pc' := 134) (lv' := [(2, .int x4), (6, .int v90), (0, .ref 115), (1, .int x1), (3, .int x3), (4, .int x4), (5, .int x5)]) kc_57_133 rfl rfl (xm_lt ml_57 rfl) ?_
                  refine xi_iload (pc' := 136) (x := v90) kc_57_134 rfl rfl ?_
                  refine xi_istore_n (pc' := 137) (lv' := [(3, .int v90), (2, .int x4), (6, .int v90), (0, .ref 115), (1, .int x1), (4, .int x4), (5, .int x5)]) kc_57_136 rfl rfl (xm_lt ml_57 rfl) ?_
                  obtain ⟨v98, ev98⟩ : ∃ q : Int32, x4 + 1 = q := ⟨_, rfl⟩
                  have zv98 : v98.toInt = (x4.toInt + 1) := by rw [← ev98]; exact (xz_add (X := x4.toInt) (Y := 1) rfl (by decide) (by omega) (by omega)).trans (by omega)
                  refine xi_iinc (pc' := 140) (x := x4) (v := v98) (lv' := [(4, .int v98), (3, .int v90), (2, .int x4), (6, .int v90), (0, .ref 115), (1, .int x1), (5, .int x5)]) kc_57_137 rfl rfl ev98 rfl (xm_lt ml_57 rfl) ?_
                  refine xi_goto (pc' := 18) kc_57_140 rfl ?_
                  refine xw_lv (b := [(0, .ref 115), (1, .int x1), (2, .int x4), (3, .int v90), (4, .int v98)]) (lvS_cons (lvS_cons (lvS_cons (lvS_cons (lvS_cons (lvS_nil (show ([4, 3, 2, 6, 0, 1, 5] : List Nat).Nodup by decide)) rfl) rfl) rfl) rfl) rfl) ?_
                  exact i0 x1 x4 v90 v98 h (by omega) (by omega) K (by omega)
            · refine xi_ift (pc' := 137) kc_57_118 rfl (xc_ne_t (X := v92.toInt) (Y := 0) rfl (by decide) (by omega)) ?_
              obtain ⟨v99, ev99⟩ : ∃ q : Int32, x4 + 1 = q := ⟨_, rfl⟩
              have zv99 : v99.toInt = (x4.toInt + 1) := by rw [← ev99]; exact (xz_add (X := x4.toInt) (Y := 1) rfl (by decide) (by omega) (by omega)).trans (by omega)
              refine xi_iinc (pc' := 140) (x := x4) (v := v99) (lv' := [(4, .int v99), (6, .int v90), (0, .ref 115), (1, .int x1), (2, .int x2), (3, .int x3), (5, .int x5)]) kc_57_137 rfl rfl ev99 rfl (xm_lt ml_57 rfl) ?_
              refine xi_goto (pc' := 18) kc_57_140 rfl ?_
              refine xw_lv (b := [(0, .ref 115), (1, .int x1), (2, .int x2), (3, .int x3), (4, .int v99)]) (lvS_cons (lvS_cons (lvS_cons (lvS_cons (lvS_cons (lvS_nil (show ([4, 6, 0, 1, 2, 3, 5] : List Nat).Nodup by decide)) rfl) rfl) rfl) rfl) rfl) ?_
              exact i0 x1 x2 x3 v99 h (by omega) (by omega) K (by omega)
        · refine xi_cmf (pc' := 46) kc_57_43 rfl (xc_ge_f (X := x6.toInt) (Y := v74.toInt) rfl rfl (by omega)) ?_
          refine xi_iload (pc' := 48) (x := x5) kc_57_46 rfl rfl ?_
          refine xi_aload_n (pc' := 49) (x := 115) kc_57_48 rfl rfl ?_
          refine xi_iload (pc' := 51) (x := x6) kc_57_49 rfl rfl ?_
          refine xi_virtual (mj := 53) (as := [.int x6]) (st1 := [.int x5]) (lv0 := [(0, .ref 115), (1, .int x6)]) kc_57_51 rfl rfl rfl rfl rfl A14 (Nat.le_of_ble_eq_true rfl) (hJ _ _ _ _ (by decide)) (xm_le ml_53 rfl) rfl ?_
          refine mt_53_0 hJ hov1 hov2 (d := d + 6) (x1 := x6) K.1 (by first | omega | decide) (fun r100 hh101 br100 K102 => ?_)
          have K103 := xk_tr K K102 (xsb_ok _ _ (by decide +kernel))
          obtain ⟨u104, u105, u106, u107, u108, u109, u110, u111, u112, u113, u114, u115, u116, bu104, bu105, bu106, bu107, bu108, bu109, bu110, bu111, bu112, bu113, bu114, bu115, bu116, A117⟩ := xq_115 K103.1
          have e118 : u2 = u105 := xk_eqi (q := 1) K102 (by decide +kernel) A14 A117 rfl rfl
          subst e118
          have e119 : u5 = u108 := xk_eqi (q := 23) K102 (by decide +kernel) A14 A117 rfl rfl
          subst e119
          have e120 : u8 = u111 := xk_eqi (q := 34) K102 (by decide +kernel) A14 A117 rfl rfl
          subst e120
          have e121 : u6 = u109 := xk_eqi (q := 32) K102 (by decide +kernel) A14 A117 rfl rfl
          subst e121
          show xw J ov (d + 8) 57 (54, [(0, .ref 115), (1, .int x1), (2, .int x2), (3, .int x3), (4, .int x4), (5, .int x5), (6, .int x6)], [.int r100, .int x5], hh101) _
          by_cases c122 : r100.toInt = 0
          · refine xi_ift (pc' := 73) kc_57_54 rfl (xc_eq_t (X := r100.toInt) (Y := 0) rfl (by decide) (by omega)) ?_
            refine xi_iconst (pc' := 74) (v := 0) kc_57_73 rfl rfl ?_
            obtain ⟨v123, ev123⟩ : ∃ q : Int32, x5 + 0 = q := ⟨_, rfl⟩
            have zv123 : v123.toInt = x5.toInt := by rw [← ev123]; exact (xz_add (X := x5.toInt) (Y := 0) rfl (by decide) (by omega) (by omega)).trans (by omega)
            refine xi_iadd (pc' := 75) (v := v123) kc_57_74 rfl ev123 ?_
            refine xi_istore (pc' := 77) (lv' := [(5, .int v123), (0, .ref 115), (1, .int x1), (2, .int x2), (3, .int x3), (4, .int x4), (6, .int x6)]) kc_57_75 rfl rfl (xm_lt ml_57 rfl) ?_
            obtain ⟨v124, ev124⟩ : ∃ q : Int32, x6 + 1 = q := ⟨_, rfl⟩
            have zv124 : v124.toInt = (x6.toInt + 1) := by rw [← ev124]; exact (xz_add (X := x6.toInt) (Y := 1) rfl (by decide) (by omega) (by omega)).trans (by omega)
            refine xi_iinc (pc' := 80) (x := x6) (v := v124) (lv' := [(6, .int v124), (5, .int v123), (0, .ref 115), (1, .int x1), (2, .int x2), (3, .int x3), (4, .int x4)]) kc_57_77 rfl rfl ev124 rfl (xm_lt ml_57 rfl) ?_
            refine xi_goto (pc' := 37) kc_57_80 rfl ?_
            refine xw_lv (b := [(0, .ref 115), (1, .int x1), (2, .int x2), (3, .int x3), (4, .int x4), (5, .int v123), (6, .int v124)]) (lvS_cons (lvS_cons (lvS_cons (lvS_cons (lvS_cons (lvS_cons (lvS_cons (lvS_nil (show ([6, 5, 0, 1, 2, 3, 4] : List Nat).Nodup by decide)) rfl) rfl) rfl) rfl) rfl) rfl) rfl) ?_
            exact i1 x1 x2 x3 x4 v123 v124 hh101 (by omega) (by omega) (by omega) (by omega) K103 (by omega)
          · refine xi_iff (pc' := 57) kc_57_54 rfl (xc_eq_f (X := r100.toInt) (Y := 0) rfl (by decide) (by omega)) ?_
            refine xi_aload_n (pc' := 58) (x := 115) kc_57_57 rfl rfl ?_
            refine xi_iload (pc' := 60) (x := x4) kc_57_58 rfl rfl ?_
            refine xi_iload (pc' := 62) (x := x6) kc_57_60 rfl rfl ?_
            refine xi_virtual (mj := 54) (as := [.int x4, .int x6]) (st1 := [.int x5]) (lv0 := [(0, .ref 115), (1, .int x4), (2, .int x6)]) kc_57_62 rfl rfl rfl rfl rfl A117 (Nat.le_of_ble_eq_true rfl) (hJ _ _ _ _ (by decide)) (xm_le ml_54 rfl) rfl ?_
            refine xi_aload_n (pc' := 1) (x := 115) kc_54_0 rfl rfl ?_
            refine xi_getfield (pc' := 4) (v := .ref 152) kc_54_1 rfl rfl rfl A117 rfl ?_
            refine xi_iload_n (pc' := 5) (x := x4) kc_54_4 rfl rfl ?_
            obtain ⟨y125, A125, hy125, ry125⟩ := xk_arr K103.1 xD_152
            obtain ⟨v126, ev126, bv126, dv126⟩ := xj_get hy125 ry125 (i := x4) (by omega) (by omega)
            refine xi_iaload (pc' := 6) (v := v126) kc_54_5 rfl A125 (by decide) rfl (xi_in (by omega) (by rw [hy125]; omega)) ev126 ?_
            refine xi_iload_n (pc' := 7) (x := x6) kc_54_6 rfl rfl ?_
            obtain ⟨v127, ev127⟩ : ∃ q : Int32, (v126 : Int32) &&& x6 = q := ⟨_, rfl⟩
            have rv127 := xc_rng v127
            refine xi_iand (pc' := 8) (v := v127) kc_54_7 rfl ev127 ?_
            by_cases c128 : v127.toInt = 0
            · refine xi_ift (pc' := 15) kc_54_8 rfl (xc_eq_t (X := v127.toInt) (Y := 0) rfl (by decide) (by omega)) ?_
              refine xi_iconst (pc' := 16) (v := 2) kc_54_15 rfl rfl ?_
              refine xi_ireturn kc_54_16 mr_54 rfl ?_
              show xw J ov (d + 8) 57 (65, [(0, .ref 115), (1, .int x1), (2, .int x2), (3, .int x3), (4, .int x4), (5, .int x5), (6, .int x6)], [.int 2, .int x5], hh101) _
              refine xi_iconst (pc' := 66) (v := 1) kc_57_65 rfl rfl ?_
              refine xi_cmt (pc' := 73) kc_57_66 rfl rfl ?_
              refine xi_iconst (pc' := 74) (v := 0) kc_57_73 rfl rfl ?_
              obtain ⟨v129, ev129⟩ : ∃ q : Int32, x5 + 0 = q := ⟨_, rfl⟩
              have zv129 : v129.toInt = x5.toInt := by rw [← ev129]; exact (xz_add (X := x5.toInt) (Y := 0) rfl (by decide) (by omega) (by omega)).trans (by omega)
              refine xi_iadd (pc' := 75) (v := v129) kc_57_74 rfl ev129 ?_
              refine xi_istore (pc' := 77) (lv' := [(5, .int v129), (0, .ref 115), (1, .int x1), (2, .int x2), (3, .int x3), (4, .int x4), (6, .int x6)]) kc_57_75 rfl rfl (xm_lt ml_57 rfl) ?_
              obtain ⟨v130, ev130⟩ : ∃ q : Int32, x6 + 1 = q := ⟨_, rfl⟩
              have zv130 : v130.toInt = (x6.toInt + 1) := by rw [← ev130]; exact (xz_add (X := x6.toInt) (Y := 1) rfl (by decide) (by omega) (by omega)).trans (by omega)
              refine xi_iinc (pc' := 80) (x := x6) (v := v130) (lv' := [(6, .int v130), (5, .int v129), (0, .ref 115), (1, .int x1), (2, .int x2), (3, .int x3), (4, .int x4)]) kc_57_77 rfl rfl ev130 rfl (xm_lt ml_57 rfl) ?_
              refine xi_goto (pc' := 37) kc_57_80 rfl ?_
              refine xw_lv (b := [(0, .ref 115), (1, .int x1), (2, .int x2), (3, .int x3), (4, .int x4), (5, .int v129), (6, .int v130)]) (lvS_cons (lvS_cons (lvS_cons (lvS_cons (lvS_cons (lvS_cons (lvS_cons (lvS_nil (show ([6, 5, 0, 1, 2, 3, 4] : List Nat).Nodup by decide)) rfl) rfl) rfl) rfl) rfl) rfl) rfl) ?_
              exact i1 x1 x2 x3 x4 v129 v130 hh101 (by omega) (by omega) (by omega) (by omega) K103 (by omega)
            · refine xi_iff (pc' := 11) kc_54_8 rfl (xc_eq_f (X := v127.toInt) (Y := 0) rfl (by decide) (by omega)) ?_
              refine xi_iconst (pc' := 12) (v := 1) kc_54_11 rfl rfl ?_
              refine xi_goto (pc' := 16) kc_54_12 rfl ?_
              refine xi_ireturn kc_54_16 mr_54 rfl ?_
              show xw J ov (d + 8) 57 (65, [(0, .ref 115), (1, .int x1), (2, .int x2), (3, .int x3), (4, .int x4), (5, .int x5), (6, .int x6)], [.int 1, .int x5], hh101) _
              refine xi_iconst (pc' := 66) (v := 1) kc_57_65 rfl rfl ?_
              refine xi_cmf (pc' := 69) kc_57_66 rfl rfl ?_
              refine xi_iconst (pc' := 70) (v := 1) kc_57_69 rfl rfl ?_
              refine xi_goto (pc' := 74) kc_57_70 rfl ?_
              obtain ⟨v131, ev131⟩ : ∃ q : Int32, (x5 : Int32) + 1 = q := ⟨_, rfl⟩
              have rv131 := xc_rng v131
              refine xi_iadd (pc' := 75) (v := v131) kc_57_74 rfl ev131 ?_
              refine xi_istore (pc' := 77) (lv' := [(5, .int v131), (0, .ref 115), (1, .int x1), (2, .int x2), (3, .int x3), (4, .int x4), (6, .int x6)]) kc_57_75 rfl rfl (xm_lt ml_57 rfl) ?_
              obtain ⟨v132, ev132⟩ : ∃ q : Int32, x6 + 1 = q := ⟨_, rfl⟩
              have zv132 : v132.toInt = (x6.toInt + 1) := by rw [← ev132]; exact (xz_add (X := x6.toInt) (Y := 1) rfl (by decide) (by omega) (by omega)).trans (by omega)
              refine xi_iinc (pc' := 80) (x := x6) (v := v132) (lv' := [(6, .int v132), (5, .int v131), (0, .ref 115), (1, .int x1), (2, .int x2), (3, .int x3), (4, .int x4)]) kc_57_77 rfl rfl ev132 rfl (xm_lt ml_57 rfl) ?_
              refine xi_goto (pc' := 37) kc_57_80 rfl ?_
              refine xw_lv (b := [(0, .ref 115), (1, .int x1), (2, .int x2), (3, .int x3), (4, .int x4), (5, .int v131), (6, .int v132)]) (lvS_cons (lvS_cons (lvS_cons (lvS_cons (lvS_cons (lvS_cons (lvS_cons (lvS_nil (show ([6, 5, 0, 1, 2, 3, 4] : List Nat).Nodup by decide)) rfl) rfl) rfl) rfl) rfl) rfl) rfl) ?_
              exact i1 x1 x2 x3 x4 v131 v132 hh101 (by omega) (by omega) (by omega) (by omega) K103 (by omega)
set_option maxHeartbeats 4000000 in
theorem mt_57_0 {J : xe_J} {ov : List (List Int32)} (hJ : ∀ d mj as h, mj ≠ xe_loff → J d mj as h = none) (hov1 : ov[1]? = some [10, 0, 0, 0, 0, 0]) (hov2 : ov[2]? = some [99, 30, 50, 50, 1, 99999]) {d : Nat} {Q : Option Value → xe_H → Prop} {h : xe_H} (T : xt h) (kk : (∀ (r : Int32) (h' : xe_H), ((-9) ≤ r.toInt ∧ r.toInt ≤ 7) → xk xP_17 h h' → Q (some (.int r)) h')) : xw J ov (d + 8) 57 (0, [(0, .ref 115)], [], h) Q := by
  have K : xk xP_17 h h := xk_re T
  refine xi_aload_n (pc' := 1) (x := 115) kc_57_0 rfl rfl ?_
  refine xi_iconst (pc' := 2) (v := 0) kc_57_1 rfl rfl ?_
  obtain ⟨u1, u2, u3, u4, u5, u6, u7, u8, u9, u10, u11, u12, u13, bu1, bu2, bu3, bu4, bu5, bu6, bu7, bu8, bu9, bu10, bu11, bu12, bu13, A14⟩ := xq_115 K.1
  refine xi_putfield (pc' := 5) (fs' := [.int 0, .int u2, .ref 116, .ref 117, .ref 118, .ref 119, .ref 120, .ref 121, .ref 122, .ref 123, .ref 124, .ref 125, .ref 126, .ref 127, .ref 128, .ref 129, .int u3, .ref 130, .int u4, .ref 131, .ref 132, .ref 133, .ref 134, .int u5, .ref 135, .ref 136, .ref 137, .ref 138, .ref 139, .ref 140, .ref 141, .ref 142, .int u6, .int u7, .int u8, .ref 143, .ref 144, .ref 145, .ref 146, .ref 147, .ref 148, .int u9, .ref 149, .ref 150, .ref 151, .int u10, .ref 152, .ref 153, .ref 154, .ref 155, .ref 156, .ref 157, .ref 158, .ref 159, .int u11, .ref 160, .int u12, .ref 161, .ref 162, .ref 163, .ref 164, .int u13, .ref 165, .ref 166]) kc_57_2 rfl rfl rfl A14 rfl rfl rfl (Nat.le_of_ble_eq_true rfl) rfl (fun hh16 eh15 => ?_)
  have K17 := xk_pf (k := 0) (v := 0) K (xk_wf (by decide +kernel)) xD_115 A14 rfl (by first | omega | decide) (by first | omega | decide) eh15 rfl
  refine xi_aload_n (pc' := 6) (x := 115) kc_57_5 rfl rfl ?_
  refine xi_virtual (mj := 52) (as := []) (st1 := []) (lv0 := [(0, .ref 115)]) kc_57_6 rfl rfl rfl rfl rfl eh15.1 (Nat.le_of_ble_eq_true rfl) (hJ _ _ _ _ (by decide)) (xm_le ml_52 rfl) rfl ?_
  refine mt_52_0 hJ hov1 hov2 (d := d)  K17.1 (fun r18 hh19 K20 => ?_)
  have br18 := xc_rng r18
  have K21 := xk_tr K17 K20 (xsb_ok _ _ (by decide +kernel))
  obtain ⟨u22, u23, u24, u25, u26, u27, u28, u29, u30, u31, u32, u33, u34, bu22, bu23, bu24, bu25, bu26, bu27, bu28, bu29, bu30, bu31, bu32, bu33, bu34, A35⟩ := xq_115 K21.1
  have e36 : u2 = u23 := xk_eqi (q := 1) K20 (by decide +kernel) eh15.1 A35 rfl rfl
  subst e36
  have e37 : u5 = u26 := xk_eqi (q := 23) K20 (by decide +kernel) eh15.1 A35 rfl rfl
  subst e37
  have e38 : u8 = u29 := xk_eqi (q := 34) K20 (by decide +kernel) eh15.1 A35 rfl rfl
  subst e38
  show xw J ov (d + 8) 57 (9, [(0, .ref 115)], [.int r18], hh19) _
  refine xi_istore_n (pc' := 10) (lv' := [(1, .int r18), (0, .ref 115)]) kc_57_9 rfl rfl (xm_lt ml_57 rfl) ?_
  refine xi_bipush (pc' := 12) (v := (-9)) kc_57_10 rfl rfl ?_
  refine xi_istore_n (pc' := 13) (lv' := [(2, .int (-9)), (1, .int r18), (0, .ref 115)]) kc_57_12 rfl rfl (xm_lt ml_57 rfl) ?_
  refine xi_iconst (pc' := 14) (v := 0) kc_57_13 rfl rfl ?_
  refine xi_istore_n (pc' := 15) (lv' := [(3, .int 0), (2, .int (-9)), (1, .int r18), (0, .ref 115)]) kc_57_14 rfl rfl (xm_lt ml_57 rfl) ?_
  refine xi_iconst (pc' := 16) (v := 0) kc_57_15 rfl rfl ?_
  refine xi_istore (pc' := 18) (lv' := [(4, .int 0), (3, .int 0), (2, .int (-9)), (1, .int r18), (0, .ref 115)]) kc_57_16 rfl rfl (xm_lt ml_57 rfl) ?_
  have zcm9 : ((-9) : Int32).toInt = (-9) := by decide
  have zc0 : (0 : Int32).toInt = 0 := by decide
  refine xw_lv (b := [(0, .ref 115), (1, .int r18), (2, .int (-9)), (3, .int 0), (4, .int 0)]) (lvS_cons (lvS_cons (lvS_cons (lvS_cons (lvS_cons (lvS_nil (show ([4, 3, 2, 1, 0] : List Nat).Nodup by decide)) rfl) rfl) rfl) rfl) rfl) ?_
  exact (lp_57_0 hJ hov1 hov2 (d := d) (hb := hh19) (fun r9 h9 b9 K9 => kk r9 h9 b9 (xk_tr K21 K9 (xsb_ok _ _ (by decide +kernel)))) 594).1 r18 (-9) 0 0 hh19 (by omega) (by omega) (xk_re K21.1) (by omega)
