theorem xw_bc {J : xe_J} {ov : List (List Int32)} {d : Nat} {Q : Option Value → xe_H → Prop} {h : xe_H} {x0 : Int32} {n : Nat} (hx : x0 = nI n) (hn : n < 65536) {r : Int32} (er : nI (xon 16 n) = r) (kk : Q (some (.int r)) h) : xw J ov d 4 (0, [(0, .int x0)], [], h) Q := by
  have b0 : 0 ≤ x0.toInt ∧ x0.toInt ≤ 65535 := by have := xnt hx (by omega); omega
  refine xi_iload_n (pc' := 1) (x := x0) kc_4_0 rfl rfl ?_
  refine xi_iload_n (pc' := 2) (x := x0) kc_4_1 rfl rfl ?_
  refine xi_iconst (pc' := 3) (v := 1) kc_4_2 rfl rfl ?_
  obtain ⟨v1, ev1⟩ : ∃ q : Int32, ((x0 : Int32).toUInt32 >>> ((1 : Int32).toUInt32 &&& Int32.toUInt32 31)).toInt32 = q := ⟨_, rfl⟩
  refine xi_iushr (pc' := 4) (v := v1) kc_4_3 rfl ev1 ?_
  refine xi_ldc_w (pc' := 7) (v := 1431655765) kc_4_4 rfl rfl ?_
  obtain ⟨v2, ev2⟩ : ∃ q : Int32, v1 &&& 1431655765 = q := ⟨_, rfl⟩
  refine xi_iand (pc' := 8) (v := v2) kc_4_7 rfl ev2 ?_
  obtain ⟨v3, ev3⟩ : ∃ q : Int32, x0 - v2 = q := ⟨_, rfl⟩
  refine xi_isub (pc' := 9) (v := v3) kc_4_8 rfl ev3 ?_
  refine xi_istore_n (pc' := 10) (lv' := [(0, .int v3)]) kc_4_9 rfl rfl (xm_lt ml_4 rfl) ?_
  refine xi_iload_n (pc' := 11) (x := v3) kc_4_10 rfl rfl ?_
  refine xi_ldc_w (pc' := 14) (v := 858993459) kc_4_11 rfl rfl ?_
  obtain ⟨v4, ev4⟩ : ∃ q : Int32, v3 &&& 858993459 = q := ⟨_, rfl⟩
  refine xi_iand (pc' := 15) (v := v4) kc_4_14 rfl ev4 ?_
  refine xi_iload_n (pc' := 16) (x := v3) kc_4_15 rfl rfl ?_
  refine xi_iconst (pc' := 17) (v := 2) kc_4_16 rfl rfl ?_
  obtain ⟨v5, ev5⟩ : ∃ q : Int32, ((v3 : Int32).toUInt32 >>> ((2 : Int32).toUInt32 &&& Int32.toUInt32 31)).toInt32 = q := ⟨_, rfl⟩
  refine xi_iushr (pc' := 18) (v := v5) kc_4_17 rfl ev5 ?_
  refine xi_ldc_w (pc' := 21) (v := 858993459) kc_4_18 rfl rfl ?_
  obtain ⟨v6, ev6⟩ : ∃ q : Int32, v5 &&& 858993459 = q := ⟨_, rfl⟩
  refine xi_iand (pc' := 22) (v := v6) kc_4_21 rfl ev6 ?_
  obtain ⟨v7, ev7⟩ : ∃ q : Int32, v4 + v6 = q := ⟨_, rfl⟩
  refine xi_iadd (pc' := 23) (v := v7) kc_4_22 rfl ev7 ?_
  refine xi_istore_n (pc' := 24) (lv' := [(0, .int v7)]) kc_4_23 rfl rfl (xm_lt ml_4 rfl) ?_
  refine xi_iload_n (pc' := 25) (x := v7) kc_4_24 rfl rfl ?_
  refine xi_iload_n (pc' := 26) (x := v7) kc_4_25 rfl rfl ?_
  refine xi_iconst (pc' := 27) (v := 4) kc_4_26 rfl rfl ?_
  obtain ⟨v8, ev8⟩ : ∃ q : Int32, ((v7 : Int32).toUInt32 >>> ((4 : Int32).toUInt32 &&& Int32.toUInt32 31)).toInt32 = q := ⟨_, rfl⟩
  refine xi_iushr (pc' := 28) (v := v8) kc_4_27 rfl ev8 ?_
  obtain ⟨v9, ev9⟩ : ∃ q : Int32, v7 + v8 = q := ⟨_, rfl⟩
  refine xi_iadd (pc' := 29) (v := v9) kc_4_28 rfl ev9 ?_
  refine xi_ldc_w (pc' := 32) (v := 252645135) kc_4_29 rfl rfl ?_
  obtain ⟨v10, ev10⟩ : ∃ q : Int32, v9 &&& 252645135 = q := ⟨_, rfl⟩
  refine xi_iand (pc' := 33) (v := v10) kc_4_32 rfl ev10 ?_
  refine xi_istore_n (pc' := 34) (lv' := [(0, .int v10)]) kc_4_33 rfl rfl (xm_lt ml_4 rfl) ?_
  refine xi_iload_n (pc' := 35) (x := v10) kc_4_34 rfl rfl ?_
  refine xi_iload_n (pc' := 36) (x := v10) kc_4_35 rfl rfl ?_
  refine xi_bipush (pc' := 38) (v := 8) kc_4_36 rfl rfl ?_
  obtain ⟨v11, ev11⟩ : ∃ q : Int32, ((v10 : Int32).toUInt32 >>> ((8 : Int32).toUInt32 &&& Int32.toUInt32 31)).toInt32 = q := ⟨_, rfl⟩
  refine xi_iushr (pc' := 39) (v := v11) kc_4_38 rfl ev11 ?_
  obtain ⟨v12, ev12⟩ : ∃ q : Int32, v10 + v11 = q := ⟨_, rfl⟩
  refine xi_iadd (pc' := 40) (v := v12) kc_4_39 rfl ev12 ?_
  refine xi_istore_n (pc' := 41) (lv' := [(0, .int v12)]) kc_4_40 rfl rfl (xm_lt ml_4 rfl) ?_
  refine xi_iload_n (pc' := 42) (x := v12) kc_4_41 rfl rfl ?_
  refine xi_iload_n (pc' := 43) (x := v12) kc_4_42 rfl rfl ?_
  refine xi_bipush (pc' := 45) (v := 16) kc_4_43 rfl rfl ?_
  obtain ⟨v13, ev13⟩ : ∃ q : Int32, ((v12 : Int32).toUInt32 >>> ((16 : Int32).toUInt32 &&& Int32.toUInt32 31)).toInt32 = q := ⟨_, rfl⟩
  refine xi_iushr (pc' := 46) (v := v13) kc_4_45 rfl ev13 ?_
  obtain ⟨v14, ev14⟩ : ∃ q : Int32, v12 + v13 = q := ⟨_, rfl⟩
  refine xi_iadd (pc' := 47) (v := v14) kc_4_46 rfl ev14 ?_
  refine xi_istore_n (pc' := 48) (lv' := [(0, .int v14)]) kc_4_47 rfl rfl (xm_lt ml_4 rfl) ?_
  refine xi_iload_n (pc' := 49) (x := v14) kc_4_48 rfl rfl ?_
  refine xi_bipush (pc' := 51) (v := 63) kc_4_49 rfl rfl ?_
  obtain ⟨v15, ev15⟩ : ∃ q : Int32, v14 &&& 63 = q := ⟨_, rfl⟩
  refine xi_iand (pc' := 52) (v := v15) kc_4_51 rfl ev15 ?_
  refine xi_ireturn kc_4_52 mr_4 rfl ?_
  rw [← er] at kk
  rw [xbc_ok hx hn ev1 ev2 ev3 ev4 ev5 ev6 ev7 ev8 ev9 ev10 ev11 ev12 ev13 ev14 ev15]
  exact kk
set_option maxHeartbeats 4000000 in
theorem kn_lp {J : xe_J} {ov : List (List Int32)} (hJ : ∀ d mj as h, mj ≠ xe_loff → J d mj as h = none) (hov1 : ov[1]? = some [10, 0, 0, 0, 0, 0]) (hov2 : ov[2]? = some [99, 30, 50, 50, 1, 99999]) {d : Nat} {Q : Option Value → xe_H → Prop} {h : xe_H} (T : xt h) {yd : List Int32} (Ayd : h[83]? = some (.inl (0, .inl yd))) (hyd : yd.length = 24) (ryd : ∀ i, i < 24 → 0 ≤ (yd.getD i 0).toInt ∧ (yd.getD i 0).toInt ≤ 2) (kk : Q (some (.int (nI (xkc yd 24)))) h) : ∀ (m : Nat) (x1 x2 : Int32), (0 ≤ x1.toInt ∧ x1.toInt ≤ 24) → (0 ≤ x2.toInt ∧ x2.toInt ≤ 24) → x1 = nI (xkc yd x2.toNatClampNeg) → 24 - x2.toInt < (m : Int) → xw J ov (d + 3) 173 (4, [(0, .ref 80), (1, .int x1), (2, .int x2)], [], h) Q := by
  intro m
  induction m with
  | zero => intro x1 x2 b1 b2 hE hm; exfalso; omega
  | succ m ih =>
    intro x1 x2 b1 b2 hE hm
    have K : xk [] h h := xk_re T
    have hkn := xkc_le (yd := yd) x2.toNatClampNeg
    have qx2 := xj_tn b2.1
    have hx1 := xnt hE (by omega)
    refine xi_iload_n (pc' := 5) (x := x2) kc_173_4 rfl rfl ?_
    refine xi_bipush (pc' := 7) (v := 24) kc_173_5 rfl rfl ?_
    by_cases c1 : 24 ≤ x2.toInt
    · refine xi_cmt (pc' := 34) kc_173_7 rfl (xc_ge_t (X := x2.toInt) (Y := 24) rfl (by decide) (by omega)) ?_
      refine xi_iload_n (pc' := 35) (x := x1) kc_173_34 rfl rfl ?_
      refine xi_ireturn kc_173_35 mr_173 rfl ?_
      rw [xk_end hE (by omega)] at kk
      exact kk
    · refine xi_cmf (pc' := 10) kc_173_7 rfl (xc_ge_f (X := x2.toInt) (Y := 24) rfl (by decide) (by omega)) ?_
      refine xi_iload_n (pc' := 11) (x := x1) kc_173_10 rfl rfl ?_
      refine xi_aload_n (pc' := 12) (x := 80) kc_173_11 rfl rfl ?_
      have A2 := xq_80 K.1
      refine xi_getfield (pc' := 15) (v := .ref 83) kc_173_12 rfl rfl rfl A2 rfl ?_
      refine xi_iload_n (pc' := 16) (x := x2) kc_173_15 rfl rfl ?_
      obtain ⟨v3, ev3, bv3, dv3⟩ := xj_get hyd ryd (i := x2) (by omega) (by omega)
      refine xi_iaload (pc' := 17) (v := v3) kc_173_16 rfl Ayd (by decide) rfl (xi_in (by omega) (by rw [hyd]; omega)) ev3 ?_
      refine xi_iconst (pc' := 18) (v := 2) kc_173_17 rfl rfl ?_
      by_cases c4 : v3.toInt = 2
      · refine xi_cmf (pc' := 21) kc_173_18 rfl (xc_ne_f (X := v3.toInt) (Y := 2) rfl (by decide) (by omega)) ?_
        refine xi_iconst (pc' := 22) (v := 0) kc_173_21 rfl rfl ?_
        refine xi_goto (pc' := 26) kc_173_22 rfl ?_
        obtain ⟨v5, ev5⟩ : ∃ q : Int32, x1 + 0 = q := ⟨_, rfl⟩
        have zv5 : v5.toInt = x1.toInt := by rw [← ev5]; exact (xz_add (X := x1.toInt) (Y := 0) rfl (by decide) (by omega) (by omega)).trans (by omega)
        refine xi_iadd (pc' := 27) (v := v5) kc_173_26 rfl ev5 ?_
        refine xi_istore_n (pc' := 28) (lv' := [(1, .int v5), (0, .ref 80), (2, .int x2)]) kc_173_27 rfl rfl (xm_lt ml_173 rfl) ?_
        obtain ⟨v6, ev6⟩ : ∃ q : Int32, x2 + 1 = q := ⟨_, rfl⟩
        have zv6 : v6.toInt = (x2.toInt + 1) := by rw [← ev6]; exact (xz_add (X := x2.toInt) (Y := 1) rfl (by decide) (by omega) (by omega)).trans (by omega)
        refine xi_iinc (pc' := 31) (x := x2) (v := v6) (lv' := [(2, .int v6), (1, .int v5), (0, .ref 80)]) kc_173_28 rfl rfl ev6 rfl (xm_lt ml_173 rfl) ?_
        refine xi_goto (pc' := 4) kc_173_31 rfl ?_
        have ff7 : (yd.getD (Int32.toNatClampNeg x2) 0).toInt = v3.toInt := by rw [ev3]
        refine xw_lv (b := [(0, .ref 80), (1, .int v5), (2, .int v6)]) (lvS_cons (lvS_cons (lvS_cons (lvS_nil (show ([2, 1, 0] : List Nat).Nodup by decide)) rfl) rfl) rfl) ?_
        exact ih v5 v6 (by omega) (by omega) (xk_st0 hE (by omega) (by omega) b2.1 (by omega)) (by omega)
      · refine xi_cmt (pc' := 25) kc_173_18 rfl (xc_ne_t (X := v3.toInt) (Y := 2) rfl (by decide) (by omega)) ?_
        refine xi_iconst (pc' := 26) (v := 1) kc_173_25 rfl rfl ?_
        obtain ⟨v8, ev8⟩ : ∃ q : Int32, x1 + 1 = q := ⟨_, rfl⟩
        have zv8 : v8.toInt = (x1.toInt + 1) := by rw [← ev8]; exact (xz_add (X := x1.toInt) (Y := 1) rfl (by decide) (by omega) (by omega)).trans (by omega)
        refine xi_iadd (pc' := 27) (v := v8) kc_173_26 rfl ev8 ?_
        refine xi_istore_n (pc' := 28) (lv' := [(1, .int v8), (0, .ref 80), (2, .int x2)]) kc_173_27 rfl rfl (xm_lt ml_173 rfl) ?_
        obtain ⟨v9, ev9⟩ : ∃ q : Int32, x2 + 1 = q := ⟨_, rfl⟩
        have zv9 : v9.toInt = (x2.toInt + 1) := by rw [← ev9]; exact (xz_add (X := x2.toInt) (Y := 1) rfl (by decide) (by omega) (by omega)).trans (by omega)
        refine xi_iinc (pc' := 31) (x := x2) (v := v9) (lv' := [(2, .int v9), (1, .int v8), (0, .ref 80)]) kc_173_28 rfl rfl ev9 rfl (xm_lt ml_173 rfl) ?_
        refine xi_goto (pc' := 4) kc_173_31 rfl ?_
        have ff10 : (yd.getD (Int32.toNatClampNeg x2) 0).toInt = v3.toInt := by rw [ev3]
        refine xw_lv (b := [(0, .ref 80), (1, .int v8), (2, .int v9)]) (lvS_cons (lvS_cons (lvS_cons (lvS_nil (show ([2, 1, 0] : List Nat).Nodup by decide)) rfl) rfl) rfl) ?_
        exact ih v8 v9 (by omega) (by omega) (xk_st1 hE (by omega) (by omega) b2.1 b2.2 (by omega)) (by omega)
theorem xw_kn {J : xe_J} {ov : List (List Int32)} (hJ : ∀ d mj as h, mj ≠ xe_loff → J d mj as h = none) (hov1 : ov[1]? = some [10, 0, 0, 0, 0, 0]) (hov2 : ov[2]? = some [99, 30, 50, 50, 1, 99999]) {d : Nat} {Q : Option Value → xe_H → Prop} {h : xe_H} (T : xt h) {yd : List Int32} (Ayd : h[83]? = some (.inl (0, .inl yd))) (hyd : yd.length = 24) (ryd : ∀ i, i < 24 → 0 ≤ (yd.getD i 0).toInt ∧ (yd.getD i 0).toInt ≤ 2) {r : Int32} (er : nI (xkc yd 24) = r) (kk : Q (some (.int r)) h) : xw J ov (d + 3) 173 (0, [(0, .ref 80)], [], h) Q := by
  subst er
  have zc0 : (0 : Int32).toInt = 0 := by decide
  refine xi_iconst (pc' := 1) (v := 0) kc_173_0 rfl rfl ?_
  refine xi_istore_n (pc' := 2) (lv' := [(1, .int 0), (0, .ref 80)]) kc_173_1 rfl rfl (xm_lt ml_173 rfl) ?_
  refine xi_iconst (pc' := 3) (v := 0) kc_173_2 rfl rfl ?_
  refine xi_istore_n (pc' := 4) (lv' := [(2, .int 0), (1, .int 0), (0, .ref 80)]) kc_173_3 rfl rfl (xm_lt ml_173 rfl) ?_
  refine xw_lv (b := [(0, .ref 80), (1, .int 0), (2, .int 0)]) (lvS_cons (lvS_cons (lvS_cons (lvS_nil (show ([2, 1, 0] : List Nat).Nodup by decide)) rfl) rfl) rfl) ?_
  exact kn_lp hJ hov1 hov2 T Ayd hyd ryd kk 25 0 0 (by omega) (by omega) rfl (by omega)
set_option maxHeartbeats 4000000 in
theorem eb_lp {J : xe_J} {ov : List (List Int32)} (hJ : ∀ d mj as h, mj ≠ xe_loff → J d mj as h = none) (hov1 : ov[1]? = some [10, 0, 0, 0, 0, 0]) (hov2 : ov[2]? = some [99, 30, 50, 50, 1, 99999]) {d : Nat} {Q : Option Value → xe_H → Prop} {h : xe_H} (T : xt h) {ys : List Int32} {yf : List Int32} {yd : List Int32} (Ays : h[81]? = some (.inl (0, .inl ys))) (hys : ys.length = 24) (rys : ∀ i, i < 24 → 0 ≤ (ys.getD i 0).toInt ∧ (ys.getD i 0).toInt ≤ 3) (Ayf : h[82]? = some (.inl (0, .inl yf))) (hyf : yf.length = 24) (ryf : ∀ i, i < 24 → 0 ≤ (yf.getD i 0).toInt ∧ (yf.getD i 0).toInt ≤ 5) (Ayd : h[83]? = some (.inl (0, .inl yd))) (hyd : yd.length = 24) (ryd : ∀ i, i < 24 → 0 ≤ (yd.getD i 0).toInt ∧ (yd.getD i 0).toInt ≤ 2) (hn : xkc yd 24 ≤ 16) {x1 : Int32} (b1 : 0 ≤ x1.toInt ∧ x1.toInt ≤ 23) (kk : Q (some (.int (nI (xrn ys yf (xK yd) x1.toNatClampNeg (xkc yd x1.toNatClampNeg))))) h) : ∀ (m : Nat) (x2 x3 x4 : Int32), (0 ≤ x4.toInt ∧ x4.toInt ≤ x1.toInt) → x2 = nI (xrn ys yf (xK yd) x1.toNatClampNeg (xkc yd x4.toNatClampNeg)) → x3 = nI (xkc yd x4.toNatClampNeg) → x1.toInt - x4.toInt < (m : Int) → xw J ov (d + 5) 175 (7, [(0, .ref 80), (1, .int x1), (2, .int x2), (3, .int x3), (4, .int x4)], [], h) Q := by
  intro m
  induction m with
  | zero => intro x2 x3 x4 b4 hE hF hm; exfalso; omega
  | succ m ih =>
    intro x2 x3 x4 b4 hE hF hm
    have K : xk [] h h := xk_re T
    have hkn := xkc_le (yd := yd) x4.toNatClampNeg
    have qx4 := xj_tn b4.1
    have qx1 := xj_tn b1.1
    have hx3 := xnt hF (by omega)
    have rx2 := xc_rng x2
    refine xi_iload (pc' := 9) (x := x4) kc_175_7 rfl rfl ?_
    refine xi_iload_n (pc' := 10) (x := x1) kc_175_9 rfl rfl ?_
    by_cases c1 : x1.toInt ≤ x4.toInt
    · refine xi_cmt (pc' := 56) kc_175_10 rfl (xc_ge_t (X := x4.toInt) (Y := x1.toInt) rfl rfl (by omega)) ?_
      refine xi_iload_n (pc' := 57) (x := x2) kc_175_56 rfl rfl ?_
      refine xi_ireturn kc_175_57 mr_175 rfl ?_
      have e14 : x4.toNatClampNeg = x1.toNatClampNeg := by omega
      rw [e14] at hE
      rw [hE]
      exact kk
    · refine xi_cmf (pc' := 13) kc_175_10 rfl (xc_ge_f (X := x4.toInt) (Y := x1.toInt) rfl rfl (by omega)) ?_
      refine xi_iload (pc' := 15) (x := x4) kc_175_13 rfl rfl ?_
      refine xi_bipush (pc' := 17) (v := 24) kc_175_15 rfl rfl ?_
      refine xi_cmf (pc' := 20) kc_175_17 rfl (xc_ge_f (X := x4.toInt) (Y := 24) rfl (by decide) (by omega)) ?_
      refine xi_aload_n (pc' := 21) (x := 80) kc_175_20 rfl rfl ?_
      have A2 := xq_80 K.1
      refine xi_getfield (pc' := 24) (v := .ref 83) kc_175_21 rfl rfl rfl A2 rfl ?_
      refine xi_iload (pc' := 26) (x := x4) kc_175_24 rfl rfl ?_
      obtain ⟨v3, ev3, bv3, dv3⟩ := xj_get hyd ryd (i := x4) (by omega) (by omega)
      refine xi_iaload (pc' := 27) (v := v3) kc_175_26 rfl Ayd (by decide) rfl (xi_in (by omega) (by rw [hyd]; omega)) ev3 ?_
      refine xi_iconst (pc' := 28) (v := 2) kc_175_27 rfl rfl ?_
      by_cases c4 : v3.toInt = 2
      · refine xi_cmt (pc' := 50) kc_175_28 rfl (xc_eq_t (X := v3.toInt) (Y := 2) rfl (by decide) (by omega)) ?_
        obtain ⟨v5, ev5⟩ : ∃ q : Int32, x4 + 1 = q := ⟨_, rfl⟩
        have zv5 : v5.toInt = (x4.toInt + 1) := by rw [← ev5]; exact (xz_add (X := x4.toInt) (Y := 1) rfl (by decide) (by omega) (by omega)).trans (by omega)
        refine xi_iinc (pc' := 53) (x := x4) (v := v5) (lv' := [(4, .int v5), (0, .ref 80), (1, .int x1), (2, .int x2), (3, .int x3)]) kc_175_50 rfl rfl ev5 rfl (xm_lt ml_175 rfl) ?_
        refine xi_goto (pc' := 7) kc_175_53 rfl ?_
        have ff6 : (yd.getD (Int32.toNatClampNeg x4) 0).toInt = v3.toInt := by rw [ev3]
        refine xw_lv (b := [(0, .ref 80), (1, .int x1), (2, .int x2), (3, .int x3), (4, .int v5)]) (lvS_cons (lvS_cons (lvS_cons (lvS_cons (lvS_cons (lvS_nil (show ([4, 0, 1, 2, 3] : List Nat).Nodup by decide)) rfl) rfl) rfl) rfl) rfl) ?_
        exact ih x2 x3 v5 (by omega) (xbt_0 hE (by omega) b4.1 (by omega)) (xk_st0 hF (by omega) (by omega) b4.1 (by omega)) (by omega)
      · refine xi_cmf (pc' := 31) kc_175_28 rfl (xc_eq_f (X := v3.toInt) (Y := 2) rfl (by decide) (by omega)) ?_
        refine xi_aload_n (pc' := 32) (x := 80) kc_175_31 rfl rfl ?_
        refine xi_iload (pc' := 34) (x := x4) kc_175_32 rfl rfl ?_
        refine xi_iload_n (pc' := 35) (x := x1) kc_175_34 rfl rfl ?_
        refine xi_virtual (mj := 171) (as := [.int x4, .int x1]) (st1 := []) (lv0 := [(0, .ref 80), (1, .int x4), (2, .int x1)]) kc_175_35 rfl rfl rfl rfl rfl A2 (Nat.le_of_ble_eq_true rfl) (hJ _ _ _ _ (by decide)) (xm_le ml_171 rfl) rfl ?_
        refine xi_aload_n (pc' := 1) (x := 80) kc_171_0 rfl rfl ?_
        refine xi_getfield (pc' := 4) (v := .ref 81) kc_171_1 rfl rfl rfl A2 rfl ?_
        refine xi_iload_n (pc' := 5) (x := x4) kc_171_4 rfl rfl ?_
        obtain ⟨v7, ev7, bv7, dv7⟩ := xj_get hys rys (i := x4) (by omega) (by omega)
        refine xi_iaload (pc' := 6) (v := v7) kc_171_5 rfl Ays (by decide) rfl (xi_in (by omega) (by rw [hys]; omega)) ev7 ?_
        refine xi_aload_n (pc' := 7) (x := 80) kc_171_6 rfl rfl ?_
        refine xi_getfield (pc' := 10) (v := .ref 81) kc_171_7 rfl rfl rfl A2 rfl ?_
        refine xi_iload_n (pc' := 11) (x := x1) kc_171_10 rfl rfl ?_
        obtain ⟨v8, ev8, bv8, dv8⟩ := xj_get hys rys (i := x1) (by omega) (by omega)
        refine xi_iaload (pc' := 12) (v := v8) kc_171_11 rfl Ays (by decide) rfl (xi_in (by omega) (by rw [hys]; omega)) ev8 ?_
        obtain ⟨v9, ev9⟩ : ∃ q : Int32, v7 - v8 = q := ⟨_, rfl⟩
        have zv9 : v9.toInt = (v7.toInt + (-1) * v8.toInt) := by rw [← ev9]; exact (xz_sub (X := v7.toInt) (Y := v8.toInt) rfl rfl (by omega) (by omega)).trans (by omega)
        refine xi_isub (pc' := 13) (v := v9) kc_171_12 rfl ev9 ?_
        refine xi_static (mj := 2) (as := [.int v9]) (st1 := []) (lv0 := [(0, .int v9)]) kc_171_13 rfl rfl (Nat.le_of_ble_eq_true rfl) rfl rfl (Nat.le_of_ble_eq_true rfl) (hJ _ _ _ _ (by decide)) (xm_le ml_2 rfl) rfl ?_
        refine xi_iload_n (pc' := 1) (x := v9) kc_2_0 rfl rfl ?_
        by_cases c10 : 0 ≤ (v7.toInt + (-1) * v8.toInt)
        · refine xi_ift (pc' := 9) kc_2_1 rfl (xc_ge_t (X := (v7.toInt + (-1) * v8.toInt)) (Y := 0) zv9 (by decide) (by omega)) ?_
          refine xi_iload_n (pc' := 10) (x := v9) kc_2_9 rfl rfl ?_
          refine xi_ireturn kc_2_10 mr_2 rfl ?_
          show xw J ov (d + 4) 171 (16, [(0, .ref 80), (1, .int x4), (2, .int x1)], [.int v9], h) _
          refine xi_istore_n (pc' := 17) (lv' := [(3, .int v9), (0, .ref 80), (1, .int x4), (2, .int x1)]) kc_171_16 rfl rfl (xm_lt ml_171 rfl) ?_
          refine xi_aload_n (pc' := 18) (x := 80) kc_171_17 rfl rfl ?_
          refine xi_getfield (pc' := 21) (v := .ref 82) kc_171_18 rfl rfl rfl A2 rfl ?_
          refine xi_iload_n (pc' := 22) (x := x4) kc_171_21 rfl rfl ?_
          obtain ⟨v11, ev11, bv11, dv11⟩ := xj_get hyf ryf (i := x4) (by omega) (by omega)
          refine xi_iaload (pc' := 23) (v := v11) kc_171_22 rfl Ayf (by decide) rfl (xi_in (by omega) (by rw [hyf]; omega)) ev11 ?_
          refine xi_aload_n (pc' := 24) (x := 80) kc_171_23 rfl rfl ?_
          refine xi_getfield (pc' := 27) (v := .ref 82) kc_171_24 rfl rfl rfl A2 rfl ?_
          refine xi_iload_n (pc' := 28) (x := x1) kc_171_27 rfl rfl ?_
          obtain ⟨v12, ev12, bv12, dv12⟩ := xj_get hyf ryf (i := x1) (by omega) (by omega)
          refine xi_iaload (pc' := 29) (v := v12) kc_171_28 rfl Ayf (by decide) rfl (xi_in (by omega) (by rw [hyf]; omega)) ev12 ?_
          obtain ⟨v13, ev13⟩ : ∃ q : Int32, v11 - v12 = q := ⟨_, rfl⟩
          have zv13 : v13.toInt = (v11.toInt + (-1) * v12.toInt) := by rw [← ev13]; exact (xz_sub (X := v11.toInt) (Y := v12.toInt) rfl rfl (by omega) (by omega)).trans (by omega)
          refine xi_isub (pc' := 30) (v := v13) kc_171_29 rfl ev13 ?_
          refine xi_static (mj := 2) (as := [.int v13]) (st1 := []) (lv0 := [(0, .int v13)]) kc_171_30 rfl rfl (Nat.le_of_ble_eq_true rfl) rfl rfl (Nat.le_of_ble_eq_true rfl) (hJ _ _ _ _ (by decide)) (xm_le ml_2 rfl) rfl ?_
          refine xi_iload_n (pc' := 1) (x := v13) kc_2_0 rfl rfl ?_
          by_cases c14 : 0 ≤ (v11.toInt + (-1) * v12.toInt)
          · refine xi_ift (pc' := 9) kc_2_1 rfl (xc_ge_t (X := (v11.toInt + (-1) * v12.toInt)) (Y := 0) zv13 (by decide) (by omega)) ?_
            refine xi_iload_n (pc' := 10) (x := v13) kc_2_9 rfl rfl ?_
            refine xi_ireturn kc_2_10 mr_2 rfl ?_
            show xw J ov (d + 4) 171 (33, [(3, .int v9), (0, .ref 80), (1, .int x4), (2, .int x1)], [.int v13], h) _
            refine xi_istore (pc' := 35) (lv' := [(4, .int v13), (3, .int v9), (0, .ref 80), (1, .int x4), (2, .int x1)]) kc_171_33 rfl rfl (xm_lt ml_171 rfl) ?_
            refine xi_iload_n (pc' := 36) (x := v9) kc_171_35 rfl rfl ?_
            refine xi_iload (pc' := 38) (x := v13) kc_171_36 rfl rfl ?_
            obtain ⟨v15, ev15⟩ : ∃ q : Int32, v9 + v13 = q := ⟨_, rfl⟩
            have zv15 : v15.toInt = (v7.toInt + (-1) * v8.toInt + v11.toInt + (-1) * v12.toInt) := by rw [← ev15]; exact (xz_add (X := (v7.toInt + (-1) * v8.toInt)) (Y := (v11.toInt + (-1) * v12.toInt)) zv9 zv13 (by omega) (by omega)).trans (by omega)
            refine xi_iadd (pc' := 39) (v := v15) kc_171_38 rfl ev15 ?_
            refine xi_iconst (pc' := 40) (v := 1) kc_171_39 rfl rfl ?_
            by_cases c16 : (v7.toInt + (-1) * v8.toInt + v11.toInt + (-1) * v12.toInt) = 1
            · refine xi_cmf (pc' := 43) kc_171_40 rfl (xc_ne_f (X := (v7.toInt + (-1) * v8.toInt + v11.toInt + (-1) * v12.toInt)) (Y := 1) zv15 (by decide) (by omega)) ?_
              refine xi_iconst (pc' := 44) (v := 1) kc_171_43 rfl rfl ?_
              refine xi_goto (pc' := 48) kc_171_44 rfl ?_
              refine xi_ireturn kc_171_48 mr_171 rfl ?_
              show xw J ov (d + 5) 175 (38, [(0, .ref 80), (1, .int x1), (2, .int x2), (3, .int x3), (4, .int x4)], [.int 1], h) _
              refine xi_iff (pc' := 41) kc_175_38 rfl rfl ?_
              refine xi_iload_n (pc' := 42) (x := x2) kc_175_41 rfl rfl ?_
              refine xi_iconst (pc' := 43) (v := 1) kc_175_42 rfl rfl ?_
              refine xi_iload_n (pc' := 44) (x := x3) kc_175_43 rfl rfl ?_
              obtain ⟨v17, ev17⟩ : ∃ q : Int32, (1 : Int32) <<< (x3 &&& 31) = q := ⟨_, rfl⟩
              have rv17 := xc_rng v17
              have bv17 : 1 ≤ v17.toInt ∧ v17.toInt ≤ 16777216 := by rw [← ev17]; exact xj_shl24 (by omega) (by omega)
              refine xi_ishl (pc' := 45) (v := v17) kc_175_44 rfl ev17 ?_
              obtain ⟨v18, ev18⟩ : ∃ q : Int32, (x2 : Int32) ||| v17 = q := ⟨_, rfl⟩
              have rv18 := xc_rng v18
              refine xi_ior (pc' := 46) (v := v18) kc_175_45 rfl ev18 ?_
              refine xi_istore_n (pc' := 47) (lv' := [(2, .int v18), (0, .ref 80), (1, .int x1), (3, .int x3), (4, .int x4)]) kc_175_46 rfl rfl (xm_lt ml_175 rfl) ?_
              obtain ⟨v19, ev19⟩ : ∃ q : Int32, x3 + 1 = q := ⟨_, rfl⟩
              have zv19 : v19.toInt = (x3.toInt + 1) := by rw [← ev19]; exact (xz_add (X := x3.toInt) (Y := 1) rfl (by decide) (by omega) (by omega)).trans (by omega)
              refine xi_iinc (pc' := 50) (x := x3) (v := v19) (lv' := [(3, .int v19), (2, .int v18), (0, .ref 80), (1, .int x1), (4, .int x4)]) kc_175_47 rfl rfl ev19 rfl (xm_lt ml_175 rfl) ?_
              obtain ⟨v20, ev20⟩ : ∃ q : Int32, x4 + 1 = q := ⟨_, rfl⟩
              have zv20 : v20.toInt = (x4.toInt + 1) := by rw [← ev20]; exact (xz_add (X := x4.toInt) (Y := 1) rfl (by decide) (by omega) (by omega)).trans (by omega)
              refine xi_iinc (pc' := 53) (x := x4) (v := v20) (lv' := [(4, .int v20), (3, .int v19), (2, .int v18), (0, .ref 80), (1, .int x1)]) kc_175_50 rfl rfl ev20 rfl (xm_lt ml_175 rfl) ?_
              refine xi_goto (pc' := 7) kc_175_53 rfl ?_
              have ff21 : (yd.getD (Int32.toNatClampNeg x4) 0).toInt = v3.toInt := by rw [ev3]
              have ff22 : (ys.getD (Int32.toNatClampNeg x4) 0).toInt = v7.toInt := by rw [ev7]
              have ff23 : (ys.getD (Int32.toNatClampNeg x1) 0).toInt = v8.toInt := by rw [ev8]
              have ff24 : (yf.getD (Int32.toNatClampNeg x4) 0).toInt = v11.toInt := by rw [ev11]
              have ff25 : (yf.getD (Int32.toNatClampNeg x1) 0).toInt = v12.toInt := by rw [ev12]
              refine xw_lv (b := [(0, .ref 80), (1, .int x1), (2, .int v18), (3, .int v19), (4, .int v20)]) (lvS_cons (lvS_cons (lvS_cons (lvS_cons (lvS_cons (lvS_nil (show ([4, 3, 2, 0, 1] : List Nat).Nodup by decide)) rfl) rfl) rfl) rfl) rfl) ?_
              exact ih v18 v19 v20 (by omega) (xbt_y hE hF hn (by omega) (by unfold xbs; omega) b4.1 (by omega) (by omega) ev17 ev18) (xk_st1 hF (by omega) (by omega) b4.1 (by omega) (by omega)) (by omega)
            · refine xi_cmt (pc' := 47) kc_171_40 rfl (xc_ne_t (X := (v7.toInt + (-1) * v8.toInt + v11.toInt + (-1) * v12.toInt)) (Y := 1) zv15 (by decide) (by omega)) ?_
              refine xi_iconst (pc' := 48) (v := 0) kc_171_47 rfl rfl ?_
              refine xi_ireturn kc_171_48 mr_171 rfl ?_
              show xw J ov (d + 5) 175 (38, [(0, .ref 80), (1, .int x1), (2, .int x2), (3, .int x3), (4, .int x4)], [.int 0], h) _
              refine xi_ift (pc' := 47) kc_175_38 rfl rfl ?_
              obtain ⟨v26, ev26⟩ : ∃ q : Int32, x3 + 1 = q := ⟨_, rfl⟩
              have zv26 : v26.toInt = (x3.toInt + 1) := by rw [← ev26]; exact (xz_add (X := x3.toInt) (Y := 1) rfl (by decide) (by omega) (by omega)).trans (by omega)
              refine xi_iinc (pc' := 50) (x := x3) (v := v26) (lv' := [(3, .int v26), (0, .ref 80), (1, .int x1), (2, .int x2), (4, .int x4)]) kc_175_47 rfl rfl ev26 rfl (xm_lt ml_175 rfl) ?_
              obtain ⟨v27, ev27⟩ : ∃ q : Int32, x4 + 1 = q := ⟨_, rfl⟩
              have zv27 : v27.toInt = (x4.toInt + 1) := by rw [← ev27]; exact (xz_add (X := x4.toInt) (Y := 1) rfl (by decide) (by omega) (by omega)).trans (by omega)
              refine xi_iinc (pc' := 53) (x := x4) (v := v27) (lv' := [(4, .int v27), (3, .int v26), (0, .ref 80), (1, .int x1), (2, .int x2)]) kc_175_50 rfl rfl ev27 rfl (xm_lt ml_175 rfl) ?_
              refine xi_goto (pc' := 7) kc_175_53 rfl ?_
              have ff28 : (yd.getD (Int32.toNatClampNeg x4) 0).toInt = v3.toInt := by rw [ev3]
              have ff29 : (ys.getD (Int32.toNatClampNeg x4) 0).toInt = v7.toInt := by rw [ev7]
              have ff30 : (ys.getD (Int32.toNatClampNeg x1) 0).toInt = v8.toInt := by rw [ev8]
              have ff31 : (yf.getD (Int32.toNatClampNeg x4) 0).toInt = v11.toInt := by rw [ev11]
              have ff32 : (yf.getD (Int32.toNatClampNeg x1) 0).toInt = v12.toInt := by rw [ev12]
              refine xw_lv (b := [(0, .ref 80), (1, .int x1), (2, .int x2), (3, .int v26), (4, .int v27)]) (lvS_cons (lvS_cons (lvS_cons (lvS_cons (lvS_cons (lvS_nil (show ([4, 3, 0, 1, 2] : List Nat).Nodup by decide)) rfl) rfl) rfl) rfl) rfl) ?_
              exact ih x2 v26 v27 (by omega) (xbt_n hE (by omega) (by unfold xbs; omega) b4.1 (by omega) (by omega)) (xk_st1 hF (by omega) (by omega) b4.1 (by omega) (by omega)) (by omega)
          · refine xi_iff (pc' := 4) kc_2_1 rfl (xc_ge_f (X := (v11.toInt + (-1) * v12.toInt)) (Y := 0) zv13 (by decide) (by omega)) ?_
            refine xi_iload_n (pc' := 5) (x := v13) kc_2_4 rfl rfl ?_
            obtain ⟨v33, ev33⟩ : ∃ q : Int32, -v13 = q := ⟨_, rfl⟩
            have zv33 : v33.toInt = ((-1) * v11.toInt + v12.toInt) := by rw [← ev33]; exact (xz_neg (X := (v11.toInt + (-1) * v12.toInt)) zv13 (by omega)).trans (by omega)
            refine xi_ineg (pc' := 6) (v := v33) kc_2_5 rfl ev33 ?_
            refine xi_goto (pc' := 10) kc_2_6 rfl ?_
            refine xi_ireturn kc_2_10 mr_2 rfl ?_
            show xw J ov (d + 4) 171 (33, [(3, .int v9), (0, .ref 80), (1, .int x4), (2, .int x1)], [.int v33], h) _
            refine xi_istore (pc' := 35) (lv' := [(4, .int v33), (3, .int v9), (0, .ref 80), (1, .int x4), (2, .int x1)]) kc_171_33 rfl rfl (xm_lt ml_171 rfl) ?_
            refine xi_iload_n (pc' := 36) (x := v9) kc_171_35 rfl rfl ?_
            refine xi_iload (pc' := 38) (x := v33) kc_171_36 rfl rfl ?_
            obtain ⟨v34, ev34⟩ : ∃ q : Int32, v9 + v33 = q := ⟨_, rfl⟩
            have zv34 : v34.toInt = (v7.toInt + (-1) * v8.toInt + (-1) * v11.toInt + v12.toInt) := by rw [← ev34]; exact (xz_add (X := (v7.toInt + (-1) * v8.toInt)) (Y := ((-1) * v11.toInt + v12.toInt)) zv9 zv33 (by omega) (by omega)).trans (by omega)
            refine xi_iadd (pc' := 39) (v := v34) kc_171_38 rfl ev34 ?_
            refine xi_iconst (pc' := 40) (v := 1) kc_171_39 rfl rfl ?_
            by_cases c35 : (v7.toInt + (-1) * v8.toInt + (-1) * v11.toInt + v12.toInt) = 1
            · refine xi_cmf (pc' := 43) kc_171_40 rfl (xc_ne_f (X := (v7.toInt + (-1) * v8.toInt + (-1) * v11.toInt + v12.toInt)) (Y := 1) zv34 (by decide) (by omega)) ?_
              refine xi_iconst (pc' := 44) (v := 1) kc_171_43 rfl rfl ?_
              refine xi_goto (pc' := 48) kc_171_44 rfl ?_
              refine xi_ireturn kc_171_48 mr_171 rfl ?_
              show xw J ov (d + 5) 175 (38, [(0, .ref 80), (1, .int x1), (2, .int x2), (3, .int x3), (4, .int x4)], [.int 1], h) _
              refine xi_iff (pc' := 41) kc_175_38 rfl rfl ?_
              refine xi_iload_n (pc' := 42) (x := x2) kc_175_41 rfl rfl ?_
              refine xi_iconst (pc' := 43) (v := 1) kc_175_42 rfl rfl ?_
              refine xi_iload_n (pc' := 44) (x := x3) kc_175_43 rfl rfl ?_
              obtain ⟨v36, ev36⟩ : ∃ q : Int32, (1 : Int32) <<< (x3 &&& 31) = q := ⟨_, rfl⟩
              have rv36 := xc_rng v36
              have bv36 : 1 ≤ v36.toInt ∧ v36.toInt ≤ 16777216 := by rw [← ev36]; exact xj_shl24 (by omega) (by omega)
              refine xi_ishl (pc' := 45) (v := v36) kc_175_44 rfl ev36 ?_
              obtain ⟨v37, ev37⟩ : ∃ q : Int32, (x2 : Int32) ||| v36 = q := ⟨_, rfl⟩
              have rv37 := xc_rng v37
              refine xi_ior (pc' := 46) (v := v37) kc_175_45 rfl ev37 ?_
              refine xi_istore_n (pc' := 47) (lv' := [(2, .int v37), (0, .ref 80), (1, .int x1), (3, .int x3), (4, .int x4)]) kc_175_46 rfl rfl (xm_lt ml_175 rfl) ?_
              obtain ⟨v38, ev38⟩ : ∃ q : Int32, x3 + 1 = q := ⟨_, rfl⟩
              have zv38 : v38.toInt = (x3.toInt + 1) := by rw [← ev38]; exact (xz_add (X := x3.toInt) (Y := 1) rfl (by decide) (by omega) (by omega)).trans (by omega)
              refine xi_iinc (pc' := 50) (x := x3) (v := v38) (lv' := [(3, .int v38), (2, .int v37), (0, .ref 80), (1, .int x1), (4, .int x4)]) kc_175_47 rfl rfl ev38 rfl (xm_lt ml_175 rfl) ?_
              obtain ⟨v39, ev39⟩ : ∃ q : Int32, x4 + 1 = q := ⟨_, rfl⟩
              have zv39 : v39.toInt = (x4.toInt + 1) := by rw [← ev39]; exact (xz_add (X := x4.toInt) (Y := 1) rfl (by decide) (by omega) (by omega)).trans (by omega)
              refine xi_iinc (pc' := 53) (x := x4) (v := v39) (lv' := [(4, .int v39), (3, .int v38), (2, .int v37), (0, .ref 80), (1, .int x1)]) kc_175_50 rfl rfl ev39 rfl (xm_lt ml_175 rfl) ?_
              refine xi_goto (pc' := 7) kc_175_53 rfl ?_
              have ff40 : (yd.getD (Int32.toNatClampNeg x4) 0).toInt = v3.toInt := by rw [ev3]
              have ff41 : (ys.getD (Int32.toNatClampNeg x4) 0).toInt = v7.toInt := by rw [ev7]
              have ff42 : (ys.getD (Int32.toNatClampNeg x1) 0).toInt = v8.toInt := by rw [ev8]
              have ff43 : (yf.getD (Int32.toNatClampNeg x4) 0).toInt = v11.toInt := by rw [ev11]
              have ff44 : (yf.getD (Int32.toNatClampNeg x1) 0).toInt = v12.toInt := by rw [ev12]
              refine xw_lv (b := [(0, .ref 80), (1, .int x1), (2, .int v37), (3, .int v38), (4, .int v39)]) (lvS_cons (lvS_cons (lvS_cons (lvS_cons (lvS_cons (lvS_nil (show ([4, 3, 2, 0, 1] : List Nat).Nodup by decide)) rfl) rfl) rfl) rfl) rfl) ?_
              exact ih v37 v38 v39 (by omega) (xbt_y hE hF hn (by omega) (by unfold xbs; omega) b4.1 (by omega) (by omega) ev36 ev37) (xk_st1 hF (by omega) (by omega) b4.1 (by omega) (by omega)) (by omega)
            · refine xi_cmt (pc' := 47) kc_171_40 rfl (xc_ne_t (X := (v7.toInt + (-1) * v8.toInt + (-1) * v11.toInt + v12.toInt)) (Y := 1) zv34 (by decide) (by omega)) ?_
              refine xi_iconst (pc' := 48) (v := 0) kc_171_47 rfl rfl ?_
              refine xi_ireturn kc_171_48 mr_171 rfl ?_
              show xw J ov (d + 5) 175 (38, [(0, .ref 80), (1, .int x1), (2, .int x2), (3, .int x3), (4, .int x4)], [.int 0], h) _
              refine xi_ift (pc' := 47) kc_175_38 rfl rfl ?_
              obtain ⟨v45, ev45⟩ : ∃ q : Int32, x3 + 1 = q := ⟨_, rfl⟩
              have zv45 : v45.toInt = (x3.toInt + 1) := by rw [← ev45]; exact (xz_add (X := x3.toInt) (Y := 1) rfl (by decide) (by omega) (by omega)).trans (by omega)
              refine xi_iinc (pc' := 50) (x := x3) (v := v45) (lv' := [(3, .int v45), (0, .ref 80), (1, .int x1), (2, .int x2), (4, .int x4)]) kc_175_47 rfl rfl ev45 rfl (xm_lt ml_175 rfl) ?_
              obtain ⟨v46, ev46⟩ : ∃ q : Int32, x4 + 1 = q := ⟨_, rfl⟩
              have zv46 : v46.toInt = (x4.toInt + 1) := by rw [← ev46]; exact (xz_add (X := x4.toInt) (Y := 1) rfl (by decide) (by omega) (by omega)).trans (by omega)
              refine xi_iinc (pc' := 53) (x := x4) (v := v46) (lv' := [(4, .int v46), (3, .int v45), (0, .ref 80), (1, .int x1), (2, .int x2)]) kc_175_50 rfl rfl ev46 rfl (xm_lt ml_175 rfl) ?_
              refine xi_goto (pc' := 7) kc_175_53 rfl ?_
              have ff47 : (yd.getD (Int32.toNatClampNeg x4) 0).toInt = v3.toInt := by rw [ev3]
              have ff48 : (ys.getD (Int32.toNatClampNeg x4) 0).toInt = v7.toInt := by rw [ev7]
              have ff49 : (ys.getD (Int32.toNatClampNeg x1) 0).toInt = v8.toInt := by rw [ev8]
              have ff50 : (yf.getD (Int32.toNatClampNeg x4) 0).toInt = v11.toInt := by rw [ev11]
              have ff51 : (yf.getD (Int32.toNatClampNeg x1) 0).toInt = v12.toInt := by rw [ev12]
              refine xw_lv (b := [(0, .ref 80), (1, .int x1), (2, .int x2), (3, .int v45), (4, .int v46)]) (lvS_cons (lvS_cons (lvS_cons (lvS_cons (lvS_cons (lvS_nil (show ([4, 3, 0, 1, 2] : List Nat).Nodup by decide)) rfl) rfl) rfl) rfl) rfl) ?_
              exact ih x2 v45 v46 (by omega) (xbt_n hE (by omega) (by unfold xbs; omega) b4.1 (by omega) (by omega)) (xk_st1 hF (by omega) (by omega) b4.1 (by omega) (by omega)) (by omega)
        · refine xi_iff (pc' := 4) kc_2_1 rfl (xc_ge_f (X := (v7.toInt + (-1) * v8.toInt)) (Y := 0) zv9 (by decide) (by omega)) ?_
          refine xi_iload_n (pc' := 5) (x := v9) kc_2_4 rfl rfl ?_
          obtain ⟨v52, ev52⟩ : ∃ q : Int32, -v9 = q := ⟨_, rfl⟩
          have zv52 : v52.toInt = ((-1) * v7.toInt + v8.toInt) := by rw [← ev52]; exact (xz_neg (X := (v7.toInt + (-1) * v8.toInt)) zv9 (by omega)).trans (by omega)
          refine xi_ineg (pc' := 6) (v := v52) kc_2_5 rfl ev52 ?_
          refine xi_goto (pc' := 10) kc_2_6 rfl ?_
          refine xi_ireturn kc_2_10 mr_2 rfl ?_
          show xw J ov (d + 4) 171 (16, [(0, .ref 80), (1, .int x4), (2, .int x1)], [.int v52], h) _
          refine xi_istore_n (pc' := 17) (lv' := [(3, .int v52), (0, .ref 80), (1, .int x4), (2, .int x1)]) kc_171_16 rfl rfl (xm_lt ml_171 rfl) ?_
          refine xi_aload_n (pc' := 18) (x := 80) kc_171_17 rfl rfl ?_
          refine xi_getfield (pc' := 21) (v := .ref 82) kc_171_18 rfl rfl rfl A2 rfl ?_
          refine xi_iload_n (pc' := 22) (x := x4) kc_171_21 rfl rfl ?_
          obtain ⟨v53, ev53, bv53, dv53⟩ := xj_get hyf ryf (i := x4) (by omega) (by omega)
          refine xi_iaload (pc' := 23) (v := v53) kc_171_22 rfl Ayf (by decide) rfl (xi_in (by omega) (by rw [hyf]; omega)) ev53 ?_
          refine xi_aload_n (pc' := 24) (x := 80) kc_171_23 rfl rfl ?_
          refine xi_getfield (pc' := 27) (v := .ref 82) kc_171_24 rfl rfl rfl A2 rfl ?_
          refine xi_iload_n (pc' := 28) (x := x1) kc_171_27 rfl rfl ?_
          obtain ⟨v54, ev54, bv54, dv54⟩ := xj_get hyf ryf (i := x1) (by omega) (by omega)
          refine xi_iaload (pc' := 29) (v := v54) kc_171_28 rfl Ayf (by decide) rfl (xi_in (by omega) (by rw [hyf]; omega)) ev54 ?_
          obtain ⟨v55, ev55⟩ : ∃ q : Int32, v53 - v54 = q := ⟨_, rfl⟩
          have zv55 : v55.toInt = (v53.toInt + (-1) * v54.toInt) := by rw [← ev55]; exact (xz_sub (X := v53.toInt) (Y := v54.toInt) rfl rfl (by omega) (by omega)).trans (by omega)
          refine xi_isub (pc' := 30) (v := v55) kc_171_29 rfl ev55 ?_
          refine xi_static (mj := 2) (as := [.int v55]) (st1 := []) (lv0 := [(0, .int v55)]) kc_171_30 rfl rfl (Nat.le_of_ble_eq_true rfl) rfl rfl (Nat.le_of_ble_eq_true rfl) (hJ _ _ _ _ (by decide)) (xm_le ml_2 rfl) rfl ?_
          refine xi_iload_n (pc' := 1) (x := v55) kc_2_0 rfl rfl ?_
          by_cases c56 : 0 ≤ (v53.toInt + (-1) * v54.toInt)
          · refine xi_ift (pc' := 9) kc_2_1 rfl (xc_ge_t (X := (v53.toInt + (-1) * v54.toInt)) (Y := 0) zv55 (by decide) (by omega)) ?_
            refine xi_iload_n (pc' := 10) (x := v55) kc_2_9 rfl rfl ?_
            refine xi_ireturn kc_2_10 mr_2 rfl ?_
            show xw J ov (d + 4) 171 (33, [(3, .int v52), (0, .ref 80), (1, .int x4), (2, .int x1)], [.int v55], h) _
            refine xi_istore (pc' := 35) (lv' := [(4, .int v55), (3, .int v52), (0, .ref 80), (1, .int x4), (2, .int x1)]) kc_171_33 rfl rfl (xm_lt ml_171 rfl) ?_
            refine xi_iload_n (pc' := 36) (x := v52) kc_171_35 rfl rfl ?_
            refine xi_iload (pc' := 38) (x := v55) kc_171_36 rfl rfl ?_
            obtain ⟨v57, ev57⟩ : ∃ q : Int32, v52 + v55 = q := ⟨_, rfl⟩
            have zv57 : v57.toInt = ((-1) * v7.toInt + v8.toInt + v53.toInt + (-1) * v54.toInt) := by rw [← ev57]; exact (xz_add (X := ((-1) * v7.toInt + v8.toInt)) (Y := (v53.toInt + (-1) * v54.toInt)) zv52 zv55 (by omega) (by omega)).trans (by omega)
            refine xi_iadd (pc' := 39) (v := v57) kc_171_38 rfl ev57 ?_
            refine xi_iconst (pc' := 40) (v := 1) kc_171_39 rfl rfl ?_
            by_cases c58 : ((-1) * v7.toInt + v8.toInt + v53.toInt + (-1) * v54.toInt) = 1
            · refine xi_cmf (pc' := 43) kc_171_40 rfl (xc_ne_f (X := ((-1) * v7.toInt + v8.toInt + v53.toInt + (-1) * v54.toInt)) (Y := 1) zv57 (by decide) (by omega)) ?_
              refine xi_iconst (pc' := 44) (v := 1) kc_171_43 rfl rfl ?_
              refine xi_goto (pc' := 48) kc_171_44 rfl ?_
              refine xi_ireturn kc_171_48 mr_171 rfl ?_
              show xw J ov (d + 5) 175 (38, [(0, .ref 80), (1, .int x1), (2, .int x2), (3, .int x3), (4, .int x4)], [.int 1], h) _
              refine xi_iff (pc' := 41) kc_175_38 rfl rfl ?_
              refine xi_iload_n (pc' := 42) (x := x2) kc_175_41 rfl rfl ?_
              refine xi_iconst (pc' := 43) (v := 1) kc_175_42 rfl rfl ?_
              refine xi_iload_n (pc' := 44) (x := x3) kc_175_43 rfl rfl ?_
              obtain ⟨v59, ev59⟩ : ∃ q : Int32, (1 : Int32) <<< (x3 &&& 31) = q := ⟨_, rfl⟩
              have rv59 := xc_rng v59
              have bv59 : 1 ≤ v59.toInt ∧ v59.toInt ≤ 16777216 := by rw [← ev59]; exact xj_shl24 (by omega) (by omega)
              refine xi_ishl (pc' := 45) (v := v59) kc_175_44 rfl ev59 ?_
              obtain ⟨v60, ev60⟩ : ∃ q : Int32, (x2 : Int32) ||| v59 = q := ⟨_, rfl⟩
              have rv60 := xc_rng v60
              refine xi_ior (pc' := 46) (v := v60) kc_175_45 rfl ev60 ?_
              refine xi_istore_n (pc' := 47) (lv' := [(2, .int v60), (0, .ref 80), (1, .int x1), (3, .int x3), (4, .int x4)]) kc_175_46 rfl rfl (xm_lt ml_175 rfl) ?_
              obtain ⟨v61, ev61⟩ : ∃ q : Int32, x3 + 1 = q := ⟨_, rfl⟩
              have zv61 : v61.toInt = (x3.toInt + 1) := by rw [← ev61]; exact (xz_add (X := x3.toInt) (Y := 1) rfl (by decide) (by omega) (by omega)).trans (by omega)
              refine xi_iinc (pc' := 50) (x := x3) (v := v61) (lv' := [(3, .int v61), (2, .int v60), (0, .ref 80), (1, .int x1), (4, .int x4)]) kc_175_47 rfl rfl ev61 rfl (xm_lt ml_175 rfl) ?_
              obtain ⟨v62, ev62⟩ : ∃ q : Int32, x4 + 1 = q := ⟨_, rfl⟩
              have zv62 : v62.toInt = (x4.toInt + 1) := by rw [← ev62]; exact (xz_add (X := x4.toInt) (Y := 1) rfl (by decide) (by omega) (by omega)).trans (by omega)
              refine xi_iinc (pc' := 53) (x := x4) (v := v62) (lv' := [(4, .int v62), (3, .int v61), (2, .int v60), (0, .ref 80), (1, .int x1)]) kc_175_50 rfl rfl ev62 rfl (xm_lt ml_175 rfl) ?_
              refine xi_goto (pc' := 7) kc_175_53 rfl ?_
              have ff63 : (yd.getD (Int32.toNatClampNeg x4) 0).toInt = v3.toInt := by rw [ev3]
              have ff64 : (ys.getD (Int32.toNatClampNeg x4) 0).toInt = v7.toInt := by rw [ev7]
              have ff65 : (ys.getD (Int32.toNatClampNeg x1) 0).toInt = v8.toInt := by rw [ev8]
              have ff66 : (yf.getD (Int32.toNatClampNeg x4) 0).toInt = v53.toInt := by rw [ev53]
              have ff67 : (yf.getD (Int32.toNatClampNeg x1) 0).toInt = v54.toInt := by rw [ev54]
              refine xw_lv (b := [(0, .ref 80), (1, .int x1), (2, .int v60), (3, .int v61), (4, .int v62)]) (lvS_cons (lvS_cons (lvS_cons (lvS_cons (lvS_cons (lvS_nil (show ([4, 3, 2, 0, 1] : List Nat).Nodup by decide)) rfl) rfl) rfl) rfl) rfl) ?_
              exact ih v60 v61 v62 (by omega) (xbt_y hE hF hn (by omega) (by unfold xbs; omega) b4.1 (by omega) (by omega) ev59 ev60) (xk_st1 hF (by omega) (by omega) b4.1 (by omega) (by omega)) (by omega)
            · refine xi_cmt (pc' := 47) kc_171_40 rfl (xc_ne_t (X := ((-1) * v7.toInt + v8.toInt + v53.toInt + (-1) * v54.toInt)) (Y := 1) zv57 (by decide) (by omega)) ?_
              refine xi_iconst (pc' := 48) (v := 0) kc_171_47 rfl rfl ?_
              refine xi_ireturn kc_171_48 mr_171 rfl ?_
              show xw J ov (d + 5) 175 (38, [(0, .ref 80), (1, .int x1), (2, .int x2), (3, .int x3), (4, .int x4)], [.int 0], h) _
              refine xi_ift (pc' := 47) kc_175_38 rfl rfl ?_
              obtain ⟨v68, ev68⟩ : ∃ q : Int32, x3 + 1 = q := ⟨_, rfl⟩
              have zv68 : v68.toInt = (x3.toInt + 1) := by rw [← ev68]; exact (xz_add (X := x3.toInt) (Y := 1) rfl (by decide) (by omega) (by omega)).trans (by omega)
              refine xi_iinc (pc' := 50) (x := x3) (v := v68) (lv' := [(3, .int v68), (0, .ref 80), (1, .int x1), (2, .int x2), (4, .int x4)]) kc_175_47 rfl rfl ev68 rfl (xm_lt ml_175 rfl) ?_
              obtain ⟨v69, ev69⟩ : ∃ q : Int32, x4 + 1 = q := ⟨_, rfl⟩
              have zv69 : v69.toInt = (x4.toInt + 1) := by rw [← ev69]; exact (xz_add (X := x4.toInt) (Y := 1) rfl (by decide) (by omega) (by omega)).trans (by omega)
              refine xi_iinc (pc' := 53) (x := x4) (v := v69) (lv' := [(4, .int v69), (3, .int v68), (0, .ref 80), (1, .int x1), (2, .int x2)]) kc_175_50 rfl rfl ev69 rfl (xm_lt ml_175 rfl) ?_
              refine xi_goto (pc' := 7) kc_175_53 rfl ?_
              have ff70 : (yd.getD (Int32.toNatClampNeg x4) 0).toInt = v3.toInt := by rw [ev3]
              have ff71 : (ys.getD (Int32.toNatClampNeg x4) 0).toInt = v7.toInt := by rw [ev7]
              have ff72 : (ys.getD (Int32.toNatClampNeg x1) 0).toInt = v8.toInt := by rw [ev8]
              have ff73 : (yf.getD (Int32.toNatClampNeg x4) 0).toInt = v53.toInt := by rw [ev53]
              have ff74 : (yf.getD (Int32.toNatClampNeg x1) 0).toInt = v54.toInt := by rw [ev54]
              refine xw_lv (b := [(0, .ref 80), (1, .int x1), (2, .int x2), (3, .int v68), (4, .int v69)]) (lvS_cons (lvS_cons (lvS_cons (lvS_cons (lvS_cons (lvS_nil (show ([4, 3, 0, 1, 2] : List Nat).Nodup by decide)) rfl) rfl) rfl) rfl) rfl) ?_
              exact ih x2 v68 v69 (by omega) (xbt_n hE (by omega) (by unfold xbs; omega) b4.1 (by omega) (by omega)) (xk_st1 hF (by omega) (by omega) b4.1 (by omega) (by omega)) (by omega)
          · refine xi_iff (pc' := 4) kc_2_1 rfl (xc_ge_f (X := (v53.toInt + (-1) * v54.toInt)) (Y := 0) zv55 (by decide) (by omega)) ?_
            refine xi_iload_n (pc' := 5) (x := v55) kc_2_4 rfl rfl ?_
            obtain ⟨v75, ev75⟩ : ∃ q : Int32, -v55 = q := ⟨_, rfl⟩
            have zv75 : v75.toInt = ((-1) * v53.toInt + v54.toInt) := by rw [← ev75]; exact (xz_neg (X := (v53.toInt + (-1) * v54.toInt)) zv55 (by omega)).trans (by omega)
            refine xi_ineg (pc' := 6) (v := v75) kc_2_5 rfl ev75 ?_
            refine xi_goto (pc' := 10) kc_2_6 rfl ?_
            refine xi_ireturn kc_2_10 mr_2 rfl ?_
            show xw J ov (d + 4) 171 (33, [(3, .int v52), (0, .ref 80), (1, .int x4), (2, .int x1)], [.int v75], h) _
            refine xi_istore (pc' := 35) (lv' := [(4, .int v75), (3, .int v52), (0, .ref 80), (1, .int x4), (2, .int x1)]) kc_171_33 rfl rfl (xm_lt ml_171 rfl) ?_
            refine xi_iload_n (pc' := 36) (x := v52) kc_171_35 rfl rfl ?_
            refine xi_iload (pc' := 38) (x := v75) kc_171_36 rfl rfl ?_
            obtain ⟨v76, ev76⟩ : ∃ q : Int32, v52 + v75 = q := ⟨_, rfl⟩
            have zv76 : v76.toInt = ((-1) * v7.toInt + v8.toInt + (-1) * v53.toInt + v54.toInt) := by rw [← ev76]; exact (xz_add (X := ((-1) * v7.toInt + v8.toInt)) (Y := ((-1) * v53.toInt + v54.toInt)) zv52 zv75 (by omega) (by omega)).trans (by omega)
            refine xi_iadd (pc' := 39) (v := v76) kc_171_38 rfl ev76 ?_
            refine xi_iconst (pc' := 40) (v := 1) kc_171_39 rfl rfl ?_
            by_cases c77 : ((-1) * v7.toInt + v8.toInt + (-1) * v53.toInt + v54.toInt) = 1
            · refine xi_cmf (pc' := 43) kc_171_40 rfl (xc_ne_f (X := ((-1) * v7.toInt + v8.toInt + (-1) * v53.toInt + v54.toInt)) (Y := 1) zv76 (by decide) (by omega)) ?_
              refine xi_iconst (pc' := 44) (v := 1) kc_171_43 rfl rfl ?_
              refine xi_goto (pc' := 48) kc_171_44 rfl ?_
              refine xi_ireturn kc_171_48 mr_171 rfl ?_
              show xw J ov (d + 5) 175 (38, [(0, .ref 80), (1, .int x1), (2, .int x2), (3, .int x3), (4, .int x4)], [.int 1], h) _
              refine xi_iff (pc' := 41) kc_175_38 rfl rfl ?_
              refine xi_iload_n (pc' := 42) (x := x2) kc_175_41 rfl rfl ?_
              refine xi_iconst (pc' := 43) (v := 1) kc_175_42 rfl rfl ?_
              refine xi_iload_n (pc' := 44) (x := x3) kc_175_43 rfl rfl ?_
              obtain ⟨v78, ev78⟩ : ∃ q : Int32, (1 : Int32) <<< (x3 &&& 31) = q := ⟨_, rfl⟩
              have rv78 := xc_rng v78
              have bv78 : 1 ≤ v78.toInt ∧ v78.toInt ≤ 16777216 := by rw [← ev78]; exact xj_shl24 (by omega) (by omega)
              refine xi_ishl (pc' := 45) (v := v78) kc_175_44 rfl ev78 ?_
              obtain ⟨v79, ev79⟩ : ∃ q : Int32, (x2 : Int32) ||| v78 = q := ⟨_, rfl⟩
              have rv79 := xc_rng v79
              refine xi_ior (pc' := 46) (v := v79) kc_175_45 rfl ev79 ?_
              refine xi_istore_n (pc' := 47) (lv' := [(2, .int v79), (0, .ref 80), (1, .int x1), (3, .int x3), (4, .int x4)]) kc_175_46 rfl rfl (xm_lt ml_175 rfl) ?_
              obtain ⟨v80, ev80⟩ : ∃ q : Int32, x3 + 1 = q := ⟨_, rfl⟩
              have zv80 : v80.toInt = (x3.toInt + 1) := by rw [← ev80]; exact (xz_add (X := x3.toInt) (Y := 1) rfl (by decide) (by omega) (by omega)).trans (by omega)
              refine xi_iinc (pc' := 50) (x := x3) (v := v80) (lv' := [(3, .int v80), (2, .int v79), (0, .ref 80), (1, .int x1), (4, .int x4)]) kc_175_47 rfl rfl ev80 rfl (xm_lt ml_175 rfl) ?_
              obtain ⟨v81, ev81⟩ : ∃ q : Int32, x4 + 1 = q := ⟨_, rfl⟩
              have zv81 : v81.toInt = (x4.toInt + 1) := by rw [← ev81]; exact (xz_add (X := x4.toInt) (Y := 1) rfl (by decide) (by omega) (by omega)).trans (by omega)
              refine xi_iinc (pc' := 53) (x := x4) (v := v81) (lv' := [(4, .int v81), (3, .int v80), (2, .int v79), (0, .ref 80), (1, .int x1)]) kc_175_50 rfl rfl ev81 rfl (xm_lt ml_175 rfl) ?_
              refine xi_goto (pc' := 7) kc_175_53 rfl ?_
              have ff82 : (yd.getD (Int32.toNatClampNeg x4) 0).toInt = v3.toInt := by rw [ev3]
              have ff83 : (ys.getD (Int32.toNatClampNeg x4) 0).toInt = v7.toInt := by rw [ev7]
              have ff84 : (ys.getD (Int32.toNatClampNeg x1) 0).toInt = v8.toInt := by rw [ev8]
              have ff85 : (yf.getD (Int32.toNatClampNeg x4) 0).toInt = v53.toInt := by rw [ev53]
              have ff86 : (yf.getD (Int32.toNatClampNeg x1) 0).toInt = v54.toInt := by rw [ev54]
              refine xw_lv (b := [(0, .ref 80), (1, .int x1), (2, .int v79), (3, .int v80), (4, .int v81)]) (lvS_cons (lvS_cons (lvS_cons (lvS_cons (lvS_cons (lvS_nil (show ([4, 3, 2, 0, 1] : List Nat).Nodup by decide)) rfl) rfl) rfl) rfl) rfl) ?_
              exact ih v79 v80 v81 (by omega) (xbt_y hE hF hn (by omega) (by unfold xbs; omega) b4.1 (by omega) (by omega) ev78 ev79) (xk_st1 hF (by omega) (by omega) b4.1 (by omega) (by omega)) (by omega)
            · refine xi_cmt (pc' := 47) kc_171_40 rfl (xc_ne_t (X := ((-1) * v7.toInt + v8.toInt + (-1) * v53.toInt + v54.toInt)) (Y := 1) zv76 (by decide) (by omega)) ?_
              refine xi_iconst (pc' := 48) (v := 0) kc_171_47 rfl rfl ?_
              refine xi_ireturn kc_171_48 mr_171 rfl ?_
              show xw J ov (d + 5) 175 (38, [(0, .ref 80), (1, .int x1), (2, .int x2), (3, .int x3), (4, .int x4)], [.int 0], h) _
              refine xi_ift (pc' := 47) kc_175_38 rfl rfl ?_
              obtain ⟨v87, ev87⟩ : ∃ q : Int32, x3 + 1 = q := ⟨_, rfl⟩
              have zv87 : v87.toInt = (x3.toInt + 1) := by rw [← ev87]; exact (xz_add (X := x3.toInt) (Y := 1) rfl (by decide) (by omega) (by omega)).trans (by omega)
              refine xi_iinc (pc' := 50) (x := x3) (v := v87) (lv' := [(3, .int v87), (0, .ref 80), (1, .int x1), (2, .int x2), (4, .int x4)]) kc_175_47 rfl rfl ev87 rfl (xm_lt ml_175 rfl) ?_
              obtain ⟨v88, ev88⟩ : ∃ q : Int32, x4 + 1 = q := ⟨_, rfl⟩
              have zv88 : v88.toInt = (x4.toInt + 1) := by rw [← ev88]; exact (xz_add (X := x4.toInt) (Y := 1) rfl (by decide) (by omega) (by omega)).trans (by omega)
              refine xi_iinc (pc' := 53) (x := x4) (v := v88) (lv' := [(4, .int v88), (3, .int v87), (0, .ref 80), (1, .int x1), (2, .int x2)]) kc_175_50 rfl rfl ev88 rfl (xm_lt ml_175 rfl) ?_
              refine xi_goto (pc' := 7) kc_175_53 rfl ?_
              have ff89 : (yd.getD (Int32.toNatClampNeg x4) 0).toInt = v3.toInt := by rw [ev3]
              have ff90 : (ys.getD (Int32.toNatClampNeg x4) 0).toInt = v7.toInt := by rw [ev7]
              have ff91 : (ys.getD (Int32.toNatClampNeg x1) 0).toInt = v8.toInt := by rw [ev8]
              have ff92 : (yf.getD (Int32.toNatClampNeg x4) 0).toInt = v53.toInt := by rw [ev53]
              have ff93 : (yf.getD (Int32.toNatClampNeg x1) 0).toInt = v54.toInt := by rw [ev54]
              refine xw_lv (b := [(0, .ref 80), (1, .int x1), (2, .int x2), (3, .int v87), (4, .int v88)]) (lvS_cons (lvS_cons (lvS_cons (lvS_cons (lvS_cons (lvS_nil (show ([4, 3, 0, 1, 2] : List Nat).Nodup by decide)) rfl) rfl) rfl) rfl) rfl) ?_
              exact ih x2 v87 v88 (by omega) (xbt_n hE (by omega) (by unfold xbs; omega) b4.1 (by omega) (by omega)) (xk_st1 hF (by omega) (by omega) b4.1 (by omega) (by omega)) (by omega)
theorem xw_eb {J : xe_J} {ov : List (List Int32)} (hJ : ∀ d mj as h, mj ≠ xe_loff → J d mj as h = none) (hov1 : ov[1]? = some [10, 0, 0, 0, 0, 0]) (hov2 : ov[2]? = some [99, 30, 50, 50, 1, 99999]) {d : Nat} {Q : Option Value → xe_H → Prop} {h : xe_H} (T : xt h) {ys : List Int32} {yf : List Int32} {yd : List Int32} (Ays : h[81]? = some (.inl (0, .inl ys))) (hys : ys.length = 24) (rys : ∀ i, i < 24 → 0 ≤ (ys.getD i 0).toInt ∧ (ys.getD i 0).toInt ≤ 3) (Ayf : h[82]? = some (.inl (0, .inl yf))) (hyf : yf.length = 24) (ryf : ∀ i, i < 24 → 0 ≤ (yf.getD i 0).toInt ∧ (yf.getD i 0).toInt ≤ 5) (Ayd : h[83]? = some (.inl (0, .inl yd))) (hyd : yd.length = 24) (ryd : ∀ i, i < 24 → 0 ≤ (yd.getD i 0).toInt ∧ (yd.getD i 0).toInt ≤ 2) (hn : xkc yd 24 ≤ 16) {x1 : Int32} (b1 : 0 ≤ x1.toInt ∧ x1.toInt ≤ 23) {r : Int32} (er : nI (xrn ys yf (xK yd) x1.toNatClampNeg (xkc yd x1.toNatClampNeg)) = r) (kk : Q (some (.int r)) h) : xw J ov (d + 5) 175 (0, [(0, .ref 80), (1, .int x1)], [], h) Q := by
  subst er
  have zc0 : (0 : Int32).toInt = 0 := by decide
  refine xi_iconst (pc' := 1) (v := 0) kc_175_0 rfl rfl ?_
  refine xi_istore_n (pc' := 2) (lv' := [(2, .int 0), (0, .ref 80), (1, .int x1)]) kc_175_1 rfl rfl (xm_lt ml_175 rfl) ?_
  refine xi_iconst (pc' := 3) (v := 0) kc_175_2 rfl rfl ?_
  refine xi_istore_n (pc' := 4) (lv' := [(3, .int 0), (2, .int 0), (0, .ref 80), (1, .int x1)]) kc_175_3 rfl rfl (xm_lt ml_175 rfl) ?_
  refine xi_iconst (pc' := 5) (v := 0) kc_175_4 rfl rfl ?_
  refine xi_istore (pc' := 7) (lv' := [(4, .int 0), (3, .int 0), (2, .int 0), (0, .ref 80), (1, .int x1)]) kc_175_5 rfl rfl (xm_lt ml_175 rfl) ?_
  refine xw_lv (b := [(0, .ref 80), (1, .int x1), (2, .int 0), (3, .int 0), (4, .int 0)]) (lvS_cons (lvS_cons (lvS_cons (lvS_cons (lvS_cons (lvS_nil (show ([4, 3, 2, 0, 1] : List Nat).Nodup by decide)) rfl) rfl) rfl) rfl) rfl) ?_
  exact eb_lp hJ hov1 hov2 T Ays hys rys Ayf hyf ryf Ayd hyd ryd hn b1 kk 25 0 0 0 (by omega) rfl rfl (by omega)
set_option maxHeartbeats 4000000 in
theorem wf_lp {J : xe_J} {ov : List (List Int32)} (hJ : ∀ d mj as h, mj ≠ xe_loff → J d mj as h = none) (hov1 : ov[1]? = some [10, 0, 0, 0, 0, 0]) (hov2 : ov[2]? = some [99, 30, 50, 50, 1, 99999]) {d : Nat} {h : xe_H} (T : xt h) {n : Nat} {b : Nat → Nat} {Bs : List Int32} (hn : n ≤ 16) (AB : h[84]? = some (.inl (0, .inl Bs))) (hBs : Bs.length = 16) (hB : ∀ q, q < n → Bs.getD q 0 = nI (b q)) (hb : ∀ q, q < n → b q < 2 ^ q) {t : Nat} (hrec : (∀ {Q : Option Value → xe_H → Prop} (p k c : Nat) (j : Int) (x1 x2 x3 x4 x5 : Int32), x1.toInt = (p : Int) → x2.toInt = (n : Int) → x3.toInt = (k : Int) → x4.toInt = (c : Int) → x5.toInt = j → p ≤ n → k ≤ n → c < 2 ^ p → (-1000 + 16 * (16 - (p : Int)) ≤ j ∧ j ≤ 1000) → k ≤ t → Q (some (.int (nI (xwf b (n - p) p k c j)))) h → xw J ov (d + t + 2) 176 (0, [(0, .ref 80), (1, .int x1), (2, .int x2), (3, .int x3), (4, .int x4), (5, .int x5)], [], h) Q)) {Q : Option Value → xe_H → Prop} {p k c : Nat} {j : Int} {x1 x2 x3 x4 x5 : Int32} (e1 : x1.toInt = (p : Int)) (e2 : x2.toInt = (n : Int)) (e3 : x3.toInt = (k : Int)) (e4 : x4.toInt = (c : Int)) (e5 : x5.toInt = j) (lp : p ≤ n) (lk : k ≤ n) (lc : c < 2 ^ p) (lj : -1000 + 16 * (16 - (p : Int)) ≤ j ∧ j ≤ 1000) (k0 : 1 ≤ k) (kt : k ≤ t + 1) {tot : Nat} (kk : Q (some (.int (nI tot))) h) : ∀ (m i s : Nat) (x6 x7 : Int32), x7.toInt = (i : Int) → p ≤ i → i ≤ n → x6 = nI s → tot = s + xwf b (n - i) i k c j → n + 1 - i < m → xw J ov (d + t + 3) 176 (21, [(0, .ref 80), (1, .int x1), (2, .int x2), (3, .int x3), (4, .int x4), (5, .int x5), (6, .int x6), (7, .int x7)], [], h) Q := by
  intro m
  induction m with
  | zero => intro i s x6 x7 e7 l1 l2 hE hS hm; exfalso; omega
  | succ m ih =>
    intro i s x6 x7 e7 l1 l2 hE hS hm
    have K : xk [] h h := xk_re T
    have lc16 : c < 65536 := Nat.lt_of_lt_of_le lc (xp16 (by omega))
    have lci : c < 2 ^ i := Nat.lt_of_lt_of_le lc (Nat.pow_le_pow_right (by decide) l1)
    have rx6 := xc_rng x6
    have rBs : ∀ i, i < 16 → (-2147483648) ≤ (Bs.getD i 0).toInt ∧ (Bs.getD i 0).toInt ≤ 2147483647 := fun i _ => ⟨(xc_rng _).1, by have := (xc_rng (Bs.getD i 0)).2; omega⟩
    refine xi_iload (pc' := 23) (x := x7) kc_176_21 rfl rfl ?_
    refine xi_iload_n (pc' := 24) (x := x2) kc_176_23 rfl rfl ?_
    refine xi_iload_n (pc' := 25) (x := x3) kc_176_24 rfl rfl ?_
    obtain ⟨v1, ev1⟩ : ∃ q : Int32, x2 - x3 = q := ⟨_, rfl⟩
    have zv1 : v1.toInt = (x2.toInt + (-1) * x3.toInt) := by rw [← ev1]; exact (xz_sub (X := x2.toInt) (Y := x3.toInt) rfl rfl (by omega) (by omega)).trans (by omega)
    refine xi_isub (pc' := 26) (v := v1) kc_176_25 rfl ev1 ?_
    by_cases c2 : (x2.toInt + (-1) * x3.toInt) < x7.toInt
    · refine xi_cmt (pc' := 86) kc_176_26 rfl (xc_gt_t (X := x7.toInt) (Y := (x2.toInt + (-1) * x3.toInt)) rfl zv1 (by omega)) ?_
      refine xi_iload (pc' := 88) (x := x6) kc_176_86 rfl rfl ?_
      refine xi_ireturn kc_176_88 mr_176 rfl ?_
      rw [hS, xwf_few _ _ _ _ _ (by omega), Nat.add_zero, ← hE] at kk
      exact kk
    · refine xi_cmf (pc' := 29) kc_176_26 rfl (xc_gt_f (X := x7.toInt) (Y := (x2.toInt + (-1) * x3.toInt)) rfl zv1 (by omega)) ?_
      refine xi_iload (pc' := 31) (x := x7) kc_176_29 rfl rfl ?_
      refine xi_bipush (pc' := 33) (v := 16) kc_176_31 rfl rfl ?_
      by_cases c3 : 16 ≤ x7.toInt
      · refine xi_cmt (pc' := 86) kc_176_33 rfl (xc_ge_t (X := x7.toInt) (Y := 16) rfl (by decide) (by omega)) ?_
        refine xi_iload (pc' := 88) (x := x6) kc_176_86 rfl rfl ?_
        refine xi_ireturn kc_176_88 mr_176 rfl ?_
        rw [hS, xwf_few _ _ _ _ _ (by omega), Nat.add_zero, ← hE] at kk
        exact kk
      · refine xi_cmf (pc' := 36) kc_176_33 rfl (xc_ge_f (X := x7.toInt) (Y := 16) rfl (by decide) (by omega)) ?_
        refine xi_aload_n (pc' := 37) (x := 80) kc_176_36 rfl rfl ?_
        have A4 := xq_80 K.1
        refine xi_getfield (pc' := 40) (v := .ref 84) kc_176_37 rfl rfl rfl A4 rfl ?_
        refine xi_iload (pc' := 42) (x := x7) kc_176_40 rfl rfl ?_
        obtain ⟨v5, ev5, bv5, dv5⟩ := xj_get hBs rBs (i := x7) (by omega) (by omega)
        refine xi_iaload (pc' := 43) (v := v5) kc_176_42 rfl AB (by decide) rfl (xi_in (by omega) (by rw [hBs]; omega)) ev5 ?_
        refine xi_iload (pc' := 45) (x := x4) kc_176_43 rfl rfl ?_
        obtain ⟨v6, ev6⟩ : ∃ q : Int32, (v5 : Int32) &&& x4 = q := ⟨_, rfl⟩
        have rv6 := xc_rng v6
        refine xi_iand (pc' := 46) (v := v6) kc_176_45 rfl ev6 ?_
        refine xi_static (mj := 4) (as := [.int v6]) (st1 := []) (lv0 := [(0, .int v6)]) kc_176_46 rfl rfl (Nat.le_of_ble_eq_true rfl) rfl rfl (Nat.le_of_ble_eq_true rfl) (hJ _ _ _ _ (by decide)) (xm_le ml_4 rfl) rfl ?_
        have ci : Int32.toNatClampNeg x7 = i := xcl e7
        have hin : i < n := by omega
        have hw : v6 = nI (b i &&& c) := by rw [← ev6, ← ev5, ci, hB i hin, xnI e4]; exact xn_and _ _
        have lw : b i &&& c < 65536 := Nat.lt_of_le_of_lt Nat.and_le_right lc16
        obtain ⟨r7, er7⟩ : ∃ q : Int32, nI (xon 16 (b i &&& c)) = q := ⟨_, rfl⟩
        have or7 := xon_le 16 (b i &&& c)
        have zr7 : r7.toInt = ((xon 16 (b i &&& c) : Nat) : Int) := xnt er7.symm (by omega)
        refine xw_bc hw lw er7 ?_
        show xw J ov (d + t + 3) 176 (49, [(0, .ref 80), (1, .int x1), (2, .int x2), (3, .int x3), (4, .int x4), (5, .int x5), (6, .int x6), (7, .int x7)], [.int r7], h) _
        refine xi_istore (pc' := 51) (lv' := [(8, .int r7), (0, .ref 80), (1, .int x1), (2, .int x2), (3, .int x3), (4, .int x4), (5, .int x5), (6, .int x6), (7, .int x7)]) kc_176_49 rfl rfl (xm_lt ml_176 rfl) ?_
        refine xi_iload (pc' := 53) (x := x6) kc_176_51 rfl rfl ?_
        refine xi_aload_n (pc' := 54) (x := 80) kc_176_53 rfl rfl ?_
        refine xi_iload (pc' := 56) (x := x7) kc_176_54 rfl rfl ?_
        refine xi_iconst (pc' := 57) (v := 1) kc_176_56 rfl rfl ?_
        obtain ⟨v8, ev8⟩ : ∃ q : Int32, x7 + 1 = q := ⟨_, rfl⟩
        have zv8 : v8.toInt = (x7.toInt + 1) := by rw [← ev8]; exact (xz_add (X := x7.toInt) (Y := 1) rfl (by decide) (by omega) (by omega)).trans (by omega)
        refine xi_iadd (pc' := 58) (v := v8) kc_176_57 rfl ev8 ?_
        refine xi_iload_n (pc' := 59) (x := x2) kc_176_58 rfl rfl ?_
        refine xi_iload_n (pc' := 60) (x := x3) kc_176_59 rfl rfl ?_
        refine xi_iconst (pc' := 61) (v := 1) kc_176_60 rfl rfl ?_
        obtain ⟨v9, ev9⟩ : ∃ q : Int32, x3 - 1 = q := ⟨_, rfl⟩
        have zv9 : v9.toInt = (x3.toInt + (-1)) := by rw [← ev9]; exact (xz_sub (X := x3.toInt) (Y := 1) rfl (by decide) (by omega) (by omega)).trans (by omega)
        refine xi_isub (pc' := 62) (v := v9) kc_176_61 rfl ev9 ?_
        refine xi_iload (pc' := 64) (x := x4) kc_176_62 rfl rfl ?_
        refine xi_iconst (pc' := 65) (v := 1) kc_176_64 rfl rfl ?_
        refine xi_iload (pc' := 67) (x := x7) kc_176_65 rfl rfl ?_
        obtain ⟨v10, ev10⟩ : ∃ q : Int32, (1 : Int32) <<< (x7 &&& 31) = q := ⟨_, rfl⟩
        have rv10 := xc_rng v10
        refine xi_ishl (pc' := 68) (v := v10) kc_176_67 rfl ev10 ?_
        obtain ⟨v11, ev11⟩ : ∃ q : Int32, (x4 : Int32) ||| v10 = q := ⟨_, rfl⟩
        have rv11 := xc_rng v11
        refine xi_ior (pc' := 69) (v := v11) kc_176_68 rfl ev11 ?_
        refine xi_iload (pc' := 71) (x := x5) kc_176_69 rfl rfl ?_
        refine xi_iload (pc' := 73) (x := r7) kc_176_71 rfl rfl ?_
        obtain ⟨v12, ev12⟩ : ∃ q : Int32, x5 - r7 = q := ⟨_, rfl⟩
        have zv12 : v12.toInt = (x5.toInt + (-1) * r7.toInt) := by rw [← ev12]; exact (xz_sub (X := x5.toInt) (Y := r7.toInt) rfl rfl (by omega) (by omega)).trans (by omega)
        refine xi_isub (pc' := 74) (v := v12) kc_176_73 rfl ev12 ?_
        refine xi_virtual (mj := 176) (as := [.int v8, .int x2, .int v9, .int v11, .int v12]) (st1 := [.int x6]) (lv0 := [(0, .ref 80), (1, .int v8), (2, .int x2), (3, .int v9), (4, .int v11), (5, .int v12)]) kc_176_74 rfl rfl rfl rfl rfl A4 (Nat.le_of_ble_eq_true rfl) (hJ _ _ _ _ (by decide)) (xm_le ml_176 rfl) rfl ?_
        have h4 : v11 = nI (c + 2 ^ i) := xn_orb (xnI e4) lci e7 (by omega) ev10 ev11
        have hpi : 2 ^ (i + 1) = 2 ^ i + 2 ^ i := by rw [Nat.pow_succ]; omega
        have hp16 : 2 ^ (i + 1) ≤ 65536 := xp16 (by omega)
        have z4 := xnt h4 (by omega)
        refine hrec (i + 1) (k - 1) (c + 2 ^ i) (j - (xon 16 (b i &&& c) : Nat)) v8 x2 v9 v11 v12 (by omega) (by omega) (by omega) (by omega) (by omega) (by omega) (by omega) (by omega) (by omega) (by omega) ?_
        obtain ⟨r13, er13⟩ : ∃ q : Int32, nI (xwf b (n - (i + 1)) (i + 1) (k - 1) (c + 2 ^ i) (j - (xon 16 (b i &&& c) : Nat))) = q := ⟨_, rfl⟩
        rw [er13]
        have rr13 := xc_rng r13
        show xw J ov (d + t + 3) 176 (77, [(8, .int r7), (0, .ref 80), (1, .int x1), (2, .int x2), (3, .int x3), (4, .int x4), (5, .int x5), (6, .int x6), (7, .int x7)], [.int r13, .int x6], h) _
        obtain ⟨v14, ev14⟩ : ∃ q : Int32, (x6 : Int32) + r13 = q := ⟨_, rfl⟩
        have rv14 := xc_rng v14
        refine xi_iadd (pc' := 78) (v := v14) kc_176_77 rfl ev14 ?_
        refine xi_istore (pc' := 80) (lv' := [(6, .int v14), (8, .int r7), (0, .ref 80), (1, .int x1), (2, .int x2), (3, .int x3), (4, .int x4), (5, .int x5), (7, .int x7)]) kc_176_78 rfl rfl (xm_lt ml_176 rfl) ?_
        refine xi_iinc (pc' := 83) (x := x7) (v := v8) (lv' := [(7, .int v8), (6, .int v14), (8, .int r7), (0, .ref 80), (1, .int x1), (2, .int x2), (3, .int x3), (4, .int x4), (5, .int x5)]) kc_176_80 rfl rfl ev8 rfl (xm_lt ml_176 rfl) ?_
        refine xi_goto (pc' := 21) kc_176_83 rfl ?_
        refine xw_lv (b := [(0, .ref 80), (1, .int x1), (2, .int x2), (3, .int x3), (4, .int x4), (5, .int x5), (6, .int v14), (7, .int v8)]) (lvS_cons (lvS_cons (lvS_cons (lvS_cons (lvS_cons (lvS_cons (lvS_cons (lvS_cons (lvS_nil (show ([7, 6, 8, 0, 1, 2, 3, 4, 5] : List Nat).Nodup by decide)) rfl) rfl) rfl) rfl) rfl) rfl) rfl) rfl) ?_
        refine ih (i + 1) (s + xwf b (n - (i + 1)) (i + 1) (k - 1) (c + 2 ^ i) (j - (xon 16 (b i &&& c) : Nat))) v14 v8 (by omega) (by omega) (by omega) ?_ ?_ (by omega)
        · rw [← ev14, hE, ← er13]; exact nI_add _ _
        · rw [hS, show n - i = (n - (i + 1)) + 1 by omega, xwf_step (by omega)]; omega
set_option maxHeartbeats 4000000 in
theorem wf_all {J : xe_J} {ov : List (List Int32)} (hJ : ∀ d mj as h, mj ≠ xe_loff → J d mj as h = none) (hov1 : ov[1]? = some [10, 0, 0, 0, 0, 0]) (hov2 : ov[2]? = some [99, 30, 50, 50, 1, 99999]) {d : Nat} {h : xe_H} (T : xt h) {n : Nat} {b : Nat → Nat} {Bs : List Int32} (hn : n ≤ 16) (AB : h[84]? = some (.inl (0, .inl Bs))) (hBs : Bs.length = 16) (hB : ∀ q, q < n → Bs.getD q 0 = nI (b q)) (hb : ∀ q, q < n → b q < 2 ^ q) : ∀ (t : Nat) {Q : Option Value → xe_H → Prop} (p k c : Nat) (j : Int) (x1 x2 x3 x4 x5 : Int32), x1.toInt = (p : Int) → x2.toInt = (n : Int) → x3.toInt = (k : Int) → x4.toInt = (c : Int) → x5.toInt = j → p ≤ n → k ≤ n → c < 2 ^ p → (-1000 + 16 * (16 - (p : Int)) ≤ j ∧ j ≤ 1000) → k ≤ t → Q (some (.int (nI (xwf b (n - p) p k c j)))) h → xw J ov (d + t + 2) 176 (0, [(0, .ref 80), (1, .int x1), (2, .int x2), (3, .int x3), (4, .int x4), (5, .int x5)], [], h) Q := by
  intro t
  induction t with
  | zero =>
    intro Q p k c j x1 x2 x3 x4 x5 e1 e2 e3 e4 e5 lp lk lc lj kt kk
    have b3 : 0 ≤ x3.toInt ∧ x3.toInt ≤ 0 := by omega
    refine xi_iload_n (pc' := 1) (x := x3) kc_176_0 rfl rfl ?_
    refine xi_iff (pc' := 4) kc_176_1 rfl (xc_ne_f (X := x3.toInt) (Y := 0) rfl (by decide) (by omega)) ?_
    refine xi_iload (pc' := 6) (x := x5) kc_176_4 rfl rfl ?_
    by_cases c1 : 0 < x5.toInt
    · refine xi_ift (pc' := 13) kc_176_6 rfl (xc_gt_t (X := x5.toInt) (Y := 0) rfl (by decide) (by omega)) ?_
      refine xi_iconst (pc' := 14) (v := 0) kc_176_13 rfl rfl ?_
      refine xi_ireturn kc_176_14 mr_176 rfl ?_
      have hk0 : k = 0 := by omega
      subst hk0
      rw [xwf_0, if_neg (by omega)] at kk
      exact kk
    · refine xi_iff (pc' := 9) kc_176_6 rfl (xc_gt_f (X := x5.toInt) (Y := 0) rfl (by decide) (by omega)) ?_
      refine xi_iconst (pc' := 10) (v := 1) kc_176_9 rfl rfl ?_
      refine xi_goto (pc' := 14) kc_176_10 rfl ?_
      refine xi_ireturn kc_176_14 mr_176 rfl ?_
      have hk0 : k = 0 := by omega
      subst hk0
      rw [xwf_0, if_pos (by omega)] at kk
      exact kk
  | succ t hrec =>
    intro Q p k c j x1 x2 x3 x4 x5 e1 e2 e3 e4 e5 lp lk lc lj kt kk
    have b3 : 0 ≤ x3.toInt ∧ x3.toInt ≤ 16 := by omega
    rw [show d + (t + 1) + 2 = d + t + 3 by omega]
    refine xi_iload_n (pc' := 1) (x := x3) kc_176_0 rfl rfl ?_
    by_cases c1 : x3.toInt = 0
    · refine xi_iff (pc' := 4) kc_176_1 rfl (xc_ne_f (X := x3.toInt) (Y := 0) rfl (by decide) (by omega)) ?_
      refine xi_iload (pc' := 6) (x := x5) kc_176_4 rfl rfl ?_
      by_cases c2 : 0 < x5.toInt
      · refine xi_ift (pc' := 13) kc_176_6 rfl (xc_gt_t (X := x5.toInt) (Y := 0) rfl (by decide) (by omega)) ?_
        refine xi_iconst (pc' := 14) (v := 0) kc_176_13 rfl rfl ?_
        refine xi_ireturn kc_176_14 mr_176 rfl ?_
        have hk0 : k = 0 := by omega
        subst hk0
        rw [xwf_0, if_neg (by omega)] at kk
        exact kk
      · refine xi_iff (pc' := 9) kc_176_6 rfl (xc_gt_f (X := x5.toInt) (Y := 0) rfl (by decide) (by omega)) ?_
        refine xi_iconst (pc' := 10) (v := 1) kc_176_9 rfl rfl ?_
        refine xi_goto (pc' := 14) kc_176_10 rfl ?_
        refine xi_ireturn kc_176_14 mr_176 rfl ?_
        have hk0 : k = 0 := by omega
        subst hk0
        rw [xwf_0, if_pos (by omega)] at kk
        exact kk
    · refine xi_ift (pc' := 15) kc_176_1 rfl (xc_ne_t (X := x3.toInt) (Y := 0) rfl (by decide) (by omega)) ?_
      refine xi_iconst (pc' := 16) (v := 0) kc_176_15 rfl rfl ?_
      refine xi_istore (pc' := 18) (lv' := [(6, .int 0), (0, .ref 80), (1, .int x1), (2, .int x2), (3, .int x3), (4, .int x4), (5, .int x5)]) kc_176_16 rfl rfl (xm_lt ml_176 rfl) ?_
      refine xi_iload_n (pc' := 19) (x := x1) kc_176_18 rfl rfl ?_
      refine xi_istore (pc' := 21) (lv' := [(7, .int x1), (6, .int 0), (0, .ref 80), (1, .int x1), (2, .int x2), (3, .int x3), (4, .int x4), (5, .int x5)]) kc_176_19 rfl rfl (xm_lt ml_176 rfl) ?_
      refine xw_lv (b := [(0, .ref 80), (1, .int x1), (2, .int x2), (3, .int x3), (4, .int x4), (5, .int x5), (6, .int 0), (7, .int x1)]) (lvS_cons (lvS_cons (lvS_cons (lvS_cons (lvS_cons (lvS_cons (lvS_cons (lvS_cons (lvS_nil (show ([7, 6, 0, 1, 2, 3, 4, 5] : List Nat).Nodup by decide)) rfl) rfl) rfl) rfl) rfl) rfl) rfl) rfl) ?_
      exact wf_lp hJ hov1 hov2 T hn AB hBs hB hb (t := t) @hrec e1 e2 e3 e4 e5 lp lk lc lj (by omega) (by omega) kk (n + 2) p 0 0 x1 e1 (Nat.le_refl _) lp rfl (by omega) (by omega)
set_option maxHeartbeats 4000000 in
theorem ww_lp {J : xe_J} {ov : List (List Int32)} (hJ : ∀ d mj as h, mj ≠ xe_loff → J d mj as h = none) (hov1 : ov[1]? = some [10, 0, 0, 0, 0, 0]) (hov2 : ov[2]? = some [99, 30, 50, 50, 1, 99999]) {d : Nat} {Q : Option Value → xe_H → Prop} {hb : xe_H} {ys : List Int32} {yf : List Int32} {yd : List Int32} (Ays : hb[81]? = some (.inl (0, .inl ys))) (hys : ys.length = 24) (rys : ∀ i, i < 24 → 0 ≤ (ys.getD i 0).toInt ∧ (ys.getD i 0).toInt ≤ 3) (Ayf : hb[82]? = some (.inl (0, .inl yf))) (hyf : yf.length = 24) (ryf : ∀ i, i < 24 → 0 ≤ (yf.getD i 0).toInt ∧ (yf.getD i 0).toInt ≤ 5) (Ayd : hb[83]? = some (.inl (0, .inl yd))) (hyd : yd.length = 24) (ryd : ∀ i, i < 24 → 0 ≤ (yd.getD i 0).toInt ∧ (yd.getD i 0).toInt ≤ 2) (hn : xkc yd 24 ≤ 16) {x1 : Int32} (b1 : 0 ≤ x1.toInt ∧ x1.toInt ≤ 1000) (kk : ∀ h' : xe_H, xk [(81, 0), (82, 0), (83, 0), (156, 0), (157, 0), (158, 0)] hb h' → Q (some (.int (nI (xwf (xbb ys yf yd) (xkc yd 24) 0 (xrd yd (xkc yd 24)) 0 x1.toInt)))) h') : ∀ (m : Nat) (x2 x3 x4 : Int32) (h : xe_H) (Bs : List Int32), (0 ≤ x4.toInt ∧ x4.toInt ≤ 24) → x2 = nI (xkc yd x4.toNatClampNeg) → x3 = nI (xrd yd (xkc yd x4.toNatClampNeg)) → xk [(81, 0), (82, 0), (83, 0), (156, 0), (157, 0), (158, 0)] hb h → h[84]? = some (.inl (0, .inl Bs)) → Bs.length = 16 → (∀ q, q < xkc yd x4.toNatClampNeg → Bs.getD q 0 = nI (xbb ys yf yd q)) → 24 - x4.toInt < (m : Int) → xw J ov (d + 22) 174 (7, [(0, .ref 80), (1, .int x1), (2, .int x2), (3, .int x3), (4, .int x4)], [], h) Q := by
  intro m
  induction m with
  | zero => intro x2 x3 x4 h Bs b4 hE hF K AB hBs hB hm; exfalso; omega
  | succ m ih =>
    intro x2 x3 x4 h Bs b4 hE hF K AB hBs hB hm
    have hkn := xkc_le (yd := yd) x4.toNatClampNeg
    have hkt := xkc_top (yd := yd) (a := x4.toNatClampNeg) (by have := xj_tn b4.1; omega)
    have qx4 := xj_tn b4.1
    have hx2 := xnt hE (by omega)
    have hrd := xrd_le ryd (xkc yd x4.toNatClampNeg) hkt
    have hx3 := xnt hF (by omega)
    have rBs : ∀ i, i < 16 → (-2147483648) ≤ (Bs.getD i 0).toInt ∧ (Bs.getD i 0).toInt ≤ 2147483647 := fun i _ => ⟨(xc_rng _).1, by have := (xc_rng (Bs.getD i 0)).2; omega⟩
    have A1 := xk_eqa (q := 0) K rfl Ays
    have A2 := xk_eqa (q := 0) K rfl Ayf
    have A3 := xk_eqa (q := 0) K rfl Ayd
    refine xi_iload (pc' := 9) (x := x4) kc_174_7 rfl rfl ?_
    refine xi_bipush (pc' := 11) (v := 24) kc_174_9 rfl rfl ?_
    by_cases c4 : 24 ≤ x4.toInt
    · refine xi_cmt (pc' := 62) kc_174_11 rfl (xc_ge_t (X := x4.toInt) (Y := 24) rfl (by decide) (by omega)) ?_
      refine xi_aload_n (pc' := 63) (x := 80) kc_174_62 rfl rfl ?_
      refine xi_iconst (pc' := 64) (v := 0) kc_174_63 rfl rfl ?_
      refine xi_iload_n (pc' := 65) (x := x2) kc_174_64 rfl rfl ?_
      refine xi_iload_n (pc' := 66) (x := x3) kc_174_65 rfl rfl ?_
      refine xi_iconst (pc' := 67) (v := 0) kc_174_66 rfl rfl ?_
      refine xi_iload_n (pc' := 68) (x := x1) kc_174_67 rfl rfl ?_
      have A5 := xq_80 K.1
      refine xi_virtual (mj := 176) (as := [.int 0, .int x2, .int x3, .int 0, .int x1]) (st1 := []) (lv0 := [(0, .ref 80), (1, .int 0), (2, .int x2), (3, .int x3), (4, .int 0), (5, .int x1)]) kc_174_68 rfl rfl rfl rfl rfl A5 (Nat.le_of_ble_eq_true rfl) (hJ _ _ _ _ (by decide)) (xm_le ml_176 rfl) rfl ?_
      have zc0 : (0 : Int32).toInt = 0 := by decide
      have e24 : x4.toNatClampNeg = 24 := by omega
      rw [e24] at hx2 hx3 hB hE hF hkn hkt hrd
      refine wf_all hJ hov1 hov2 (d := d + 2) K.1 hn AB hBs hB (fun q _ => xrn_lt q) 17 0 (xrd yd (xkc yd 24)) 0 x1.toInt 0 x2 x3 0 x1 (by omega) hx2 hx3 (by omega) rfl (by omega) (by omega) (by decide) (by omega) (by omega) ?_
      show xw J ov (d + 22) 174 (71, [(0, .ref 80), (1, .int x1), (2, .int x2), (3, .int x3), (4, .int x4)], [.int (nI (xwf (xbb ys yf yd) (xkc yd 24 - 0) 0 (xrd yd (xkc yd 24)) 0 x1.toInt))], h) _
      refine xi_ireturn kc_174_71 mr_174 rfl ?_
      exact kk h K
    · refine xi_cmf (pc' := 14) kc_174_11 rfl (xc_ge_f (X := x4.toInt) (Y := 24) rfl (by decide) (by omega)) ?_
      refine xi_aload_n (pc' := 15) (x := 80) kc_174_14 rfl rfl ?_
      have A7 := xq_80 K.1
      refine xi_getfield (pc' := 18) (v := .ref 83) kc_174_15 rfl rfl rfl A7 rfl ?_
      refine xi_iload (pc' := 20) (x := x4) kc_174_18 rfl rfl ?_
      obtain ⟨v8, ev8, bv8, dv8⟩ := xj_get hyd ryd (i := x4) (by omega) (by omega)
      refine xi_iaload (pc' := 21) (v := v8) kc_174_20 rfl A3 (by decide) rfl (xi_in (by omega) (by rw [hyd]; omega)) ev8 ?_
      refine xi_iconst (pc' := 22) (v := 2) kc_174_21 rfl rfl ?_
      by_cases c9 : v8.toInt = 2
      · refine xi_cmt (pc' := 56) kc_174_22 rfl (xc_eq_t (X := v8.toInt) (Y := 2) rfl (by decide) (by omega)) ?_
        obtain ⟨v10, ev10⟩ : ∃ q : Int32, x4 + 1 = q := ⟨_, rfl⟩
        have zv10 : v10.toInt = (x4.toInt + 1) := by rw [← ev10]; exact (xz_add (X := x4.toInt) (Y := 1) rfl (by decide) (by omega) (by omega)).trans (by omega)
        refine xi_iinc (pc' := 59) (x := x4) (v := v10) (lv' := [(4, .int v10), (0, .ref 80), (1, .int x1), (2, .int x2), (3, .int x3)]) kc_174_56 rfl rfl ev10 rfl (xm_lt ml_174 rfl) ?_
        refine xi_goto (pc' := 7) kc_174_59 rfl ?_
        have ff11 : (yd.getD (Int32.toNatClampNeg x4) 0).toInt = v8.toInt := by rw [ev8]
        refine xw_lv (b := [(0, .ref 80), (1, .int x1), (2, .int x2), (3, .int x3), (4, .int v10)]) (lvS_cons (lvS_cons (lvS_cons (lvS_cons (lvS_cons (lvS_nil (show ([4, 0, 1, 2, 3] : List Nat).Nodup by decide)) rfl) rfl) rfl) rfl) rfl) ?_
        exact ih x2 x3 v10 h Bs (by omega) (xk_st0 hE (by omega) (by omega) b4.1 (by omega)) (xd_st0 hF (by omega) b4.1 (by omega)) K AB hBs (xw_st0 hB (by omega) b4.1 (by omega)) (by omega)
      · refine xi_cmf (pc' := 25) kc_174_22 rfl (xc_eq_f (X := v8.toInt) (Y := 2) rfl (by decide) (by omega)) ?_
        refine xi_iload_n (pc' := 26) (x := x2) kc_174_25 rfl rfl ?_
        refine xi_bipush (pc' := 28) (v := 16) kc_174_26 rfl rfl ?_
        by_cases c12 : 16 ≤ x2.toInt
        · refine xi_cmt (pc' := 56) kc_174_28 rfl (xc_ge_t (X := x2.toInt) (Y := 16) rfl (by decide) (by omega)) ?_
          obtain ⟨v13, ev13⟩ : ∃ q : Int32, x4 + 1 = q := ⟨_, rfl⟩
          have zv13 : v13.toInt = (x4.toInt + 1) := by rw [← ev13]; exact (xz_add (X := x4.toInt) (Y := 1) rfl (by decide) (by omega) (by omega)).trans (by omega)
          refine xi_iinc (pc' := 59) (x := x4) (v := v13) (lv' := [(4, .int v13), (0, .ref 80), (1, .int x1), (2, .int x2), (3, .int x3)]) kc_174_56 rfl rfl ev13 rfl (xm_lt ml_174 rfl) ?_
          refine xi_goto (pc' := 7) kc_174_59 rfl ?_
          have ff14 : (yd.getD (Int32.toNatClampNeg x4) 0).toInt = v8.toInt := by rw [ev8]
          exfalso
          have := xkc_lt (yd := yd) (a := x4.toNatClampNeg) (by omega) (by omega)
          omega
        · refine xi_cmf (pc' := 31) kc_174_28 rfl (xc_ge_f (X := x2.toInt) (Y := 16) rfl (by decide) (by omega)) ?_
          refine xi_aload_n (pc' := 32) (x := 80) kc_174_31 rfl rfl ?_
          refine xi_getfield (pc' := 35) (v := .ref 84) kc_174_32 rfl rfl rfl A7 rfl ?_
          refine xi_iload_n (pc' := 36) (x := x2) kc_174_35 rfl rfl ?_
          refine xi_aload_n (pc' := 37) (x := 80) kc_174_36 rfl rfl ?_
          refine xi_iload (pc' := 39) (x := x4) kc_174_37 rfl rfl ?_
          refine xi_virtual (mj := 175) (as := [.int x4]) (st1 := [.int x2, .ref 84]) (lv0 := [(0, .ref 80), (1, .int x4)]) kc_174_39 rfl rfl rfl rfl rfl A7 (Nat.le_of_ble_eq_true rfl) (hJ _ _ _ _ (by decide)) (xm_le ml_175 rfl) rfl ?_
          obtain ⟨r15, er15⟩ : ∃ q : Int32, nI (xrn ys yf (xK yd) (Int32.toNatClampNeg x4) (xkc yd (Int32.toNatClampNeg x4))) = q := ⟨_, rfl⟩
          have rr15 := xc_rng r15
          refine xw_eb hJ hov1 hov2 (d := d + 16) K.1 A1 hys rys A2 hyf ryf A3 hyd ryd hn (by omega) er15 ?_
          show xw J ov (d + 22) 174 (42, [(0, .ref 80), (1, .int x1), (2, .int x2), (3, .int x3), (4, .int x4)], [.int r15, .int x2, .ref 84], h) _
          obtain ⟨y16, s16, hy16, ry16⟩ := xj_set (v := r15) hBs rBs x2 (by first | omega | decide) (by first | omega | decide)
          refine xi_iastore (pc' := 43) (x' := y16) kc_174_42 rfl AB rfl (xi_in (by omega) (by rw [hBs]; omega)) s16 (fun hh16 eh16 => ?_)
          have K17 := xk_pa K (xk_wa rfl) xD_84 hy16 ry16 eh16
          obtain ⟨v18, ev18⟩ : ∃ q : Int32, x2 + 1 = q := ⟨_, rfl⟩
          have zv18 : v18.toInt = (x2.toInt + 1) := by rw [← ev18]; exact (xz_add (X := x2.toInt) (Y := 1) rfl (by decide) (by omega) (by omega)).trans (by omega)
          refine xi_iinc (pc' := 46) (x := x2) (v := v18) (lv' := [(2, .int v18), (0, .ref 80), (1, .int x1), (3, .int x3), (4, .int x4)]) kc_174_43 rfl rfl ev18 rfl (xm_lt ml_174 rfl) ?_
          refine xi_iload_n (pc' := 47) (x := x3) kc_174_46 rfl rfl ?_
          refine xi_aload_n (pc' := 48) (x := 80) kc_174_47 rfl rfl ?_
          have A19 := ((eh16.2.1 80 (by decide)).trans A7)
          refine xi_getfield (pc' := 51) (v := .ref 83) kc_174_48 rfl rfl rfl A19 rfl ?_
          refine xi_iload (pc' := 53) (x := x4) kc_174_51 rfl rfl ?_
          have A20 := ((eh16.2.1 83 (by decide)).trans A3)
          refine xi_iaload (pc' := 54) (v := v8) kc_174_53 rfl A20 (by decide) rfl (xi_in (by omega) (by rw [hyd]; omega)) ev8 ?_
          obtain ⟨v21, ev21⟩ : ∃ q : Int32, x3 + v8 = q := ⟨_, rfl⟩
          have zv21 : v21.toInt = (x3.toInt + v8.toInt) := by rw [← ev21]; exact (xz_add (X := x3.toInt) (Y := v8.toInt) rfl rfl (by omega) (by omega)).trans (by omega)
          refine xi_iadd (pc' := 55) (v := v21) kc_174_54 rfl ev21 ?_
          refine xi_istore_n (pc' := 56) (lv' := [(3, .int v21), (2, .int v18), (0, .ref 80), (1, .int x1), (4, .int x4)]) kc_174_55 rfl rfl (xm_lt ml_174 rfl) ?_
          obtain ⟨v22, ev22⟩ : ∃ q : Int32, x4 + 1 = q := ⟨_, rfl⟩
          have zv22 : v22.toInt = (x4.toInt + 1) := by rw [← ev22]; exact (xz_add (X := x4.toInt) (Y := 1) rfl (by decide) (by omega) (by omega)).trans (by omega)
          refine xi_iinc (pc' := 59) (x := x4) (v := v22) (lv' := [(4, .int v22), (3, .int v21), (2, .int v18), (0, .ref 80), (1, .int x1)]) kc_174_56 rfl rfl ev22 rfl (xm_lt ml_174 rfl) ?_
          refine xi_goto (pc' := 7) kc_174_59 rfl ?_
          have ff23 : (yd.getD (Int32.toNatClampNeg x4) 0).toInt = v8.toInt := by rw [ev8]
          refine xw_lv (b := [(0, .ref 80), (1, .int x1), (2, .int v18), (3, .int v21), (4, .int v22)]) (lvS_cons (lvS_cons (lvS_cons (lvS_cons (lvS_cons (lvS_nil (show ([4, 3, 2, 0, 1] : List Nat).Nodup by decide)) rfl) rfl) rfl) rfl) rfl) ?_
          exact ih v18 v21 v22 hh16 y16 (by omega) (xk_st1 hE (by omega) (by omega) b4.1 (by omega) (by omega)) (xd_st1 hF (by omega) ryd (by omega) b4.1 (by omega) (by omega)) K17 eh16.1 hy16 (xw_st1 hB hBs hn hE (by omega) b4.1 (by omega) (by omega) er15 s16) (by omega)
theorem xw_ww {J : xe_J} {ov : List (List Int32)} (hJ : ∀ d mj as h, mj ≠ xe_loff → J d mj as h = none) (hov1 : ov[1]? = some [10, 0, 0, 0, 0, 0]) (hov2 : ov[2]? = some [99, 30, 50, 50, 1, 99999]) {d : Nat} {Q : Option Value → xe_H → Prop} {h : xe_H} (T : xt h) {ys : List Int32} {yf : List Int32} {yd : List Int32} (Ays : h[81]? = some (.inl (0, .inl ys))) (hys : ys.length = 24) (rys : ∀ i, i < 24 → 0 ≤ (ys.getD i 0).toInt ∧ (ys.getD i 0).toInt ≤ 3) (Ayf : h[82]? = some (.inl (0, .inl yf))) (hyf : yf.length = 24) (ryf : ∀ i, i < 24 → 0 ≤ (yf.getD i 0).toInt ∧ (yf.getD i 0).toInt ≤ 5) (Ayd : h[83]? = some (.inl (0, .inl yd))) (hyd : yd.length = 24) (ryd : ∀ i, i < 24 → 0 ≤ (yd.getD i 0).toInt ∧ (yd.getD i 0).toInt ≤ 2) (hn : xkc yd 24 ≤ 16) {x1 : Int32} (b1 : 0 ≤ x1.toInt ∧ x1.toInt ≤ 1000) (kk : ∀ h' : xe_H, xk [(81, 0), (82, 0), (83, 0), (156, 0), (157, 0), (158, 0)] h h' → Q (some (.int (nI (xwf (xbb ys yf yd) (xkc yd 24) 0 (xrd yd (xkc yd 24)) 0 x1.toInt)))) h') : xw J ov (d + 22) 174 (0, [(0, .ref 80), (1, .int x1)], [], h) Q := by
  have zc0 : (0 : Int32).toInt = 0 := by decide
  obtain ⟨Bs, AB, hBs, rBs⟩ := xk_arr T xD_84
  refine xi_iconst (pc' := 1) (v := 0) kc_174_0 rfl rfl ?_
  refine xi_istore_n (pc' := 2) (lv' := [(2, .int 0), (0, .ref 80), (1, .int x1)]) kc_174_1 rfl rfl (xm_lt ml_174 rfl) ?_
  refine xi_iconst (pc' := 3) (v := 0) kc_174_2 rfl rfl ?_
  refine xi_istore_n (pc' := 4) (lv' := [(3, .int 0), (2, .int 0), (0, .ref 80), (1, .int x1)]) kc_174_3 rfl rfl (xm_lt ml_174 rfl) ?_
  refine xi_iconst (pc' := 5) (v := 0) kc_174_4 rfl rfl ?_
  refine xi_istore (pc' := 7) (lv' := [(4, .int 0), (3, .int 0), (2, .int 0), (0, .ref 80), (1, .int x1)]) kc_174_5 rfl rfl (xm_lt ml_174 rfl) ?_
  refine xw_lv (b := [(0, .ref 80), (1, .int x1), (2, .int 0), (3, .int 0), (4, .int 0)]) (lvS_cons (lvS_cons (lvS_cons (lvS_cons (lvS_cons (lvS_nil (show ([4, 3, 2, 0, 1] : List Nat).Nodup by decide)) rfl) rfl) rfl) rfl) rfl) ?_
  exact ww_lp hJ hov1 hov2 Ays hys rys Ayf hyf ryf Ayd hyd ryd hn b1 kk 25 0 0 0 h Bs (by omega) rfl rfl (xk_re T) AB hBs (fun q hq => absurd hq (Nat.not_lt_zero _)) (by omega)
set_option maxHeartbeats 4000000 in
theorem fk_lp {J : xe_J} {ov : List (List Int32)} (hJ : ∀ d mj as h, mj ≠ xe_loff → J d mj as h = none) (hov1 : ov[1]? = some [10, 0, 0, 0, 0, 0]) (hov2 : ov[2]? = some [99, 30, 50, 50, 1, 99999]) {d : Nat} {Q : Option Value → xe_H → Prop} {hb : xe_H} {yd : List Int32} (Ayd : hb[158]? = some (.inl (0, .inl yd))) (hyd : yd.length = 24) (ryd : ∀ i, i < 24 → 0 ≤ (yd.getD i 0).toInt ∧ (yd.getD i 0).toInt ≤ 2) (kk : ∀ (h' : xe_H) (yk : List Int32) (v : Int32), xk [(81, 0), (82, 0), (83, 0), (156, 0), (157, 0), (158, 0), (84, 0)] hb h' → xl h' (115, 54) = some (.inl (.int v)) → v = nI (xkc yd 24) → h'[159]? = some (.inl (0, .inl yk)) → yk.length = 24 → (∀ i, i < 24 → 0 ≤ (yk.getD i 0).toInt ∧ (yk.getD i 0).toInt ≤ 23) → (∀ q, q < xkc yd 24 → yk.getD q 0 = nI (xK yd q)) → Q none h') : ∀ (m : Nat) (x1 : Int32) (h : xe_H) (yk : List Int32), (0 ≤ x1.toInt ∧ x1.toInt ≤ 24) → xk [(81, 0), (82, 0), (83, 0), (156, 0), (157, 0), (158, 0), (84, 0)] hb h → (∀ v : Int32, xl h (115, 54) = some (.inl (.int v)) → v = nI (xkc yd x1.toNatClampNeg)) → h[159]? = some (.inl (0, .inl yk)) → yk.length = 24 → (∀ i, i < 24 → 0 ≤ (yk.getD i 0).toInt ∧ (yk.getD i 0).toInt ≤ 23) → (∀ q, q < xkc yd x1.toNatClampNeg → yk.getD q 0 = nI (xK yd q)) → 24 - x1.toInt < (m : Int) → xw J ov (d + 3) 69 (7, [(0, .ref 115), (1, .int x1)], [], h) Q := by
  intro m
  induction m with
  | zero => intro x1 h yk b1 K hF AK hyk ryk hk hm; exfalso; omega
  | succ m ih =>
    intro x1 h yk b1 K hF AK hyk ryk hk hm
    have hkn := xkc_le (yd := yd) x1.toNatClampNeg
    have qx1 := xj_tn b1.1
    have A1 := xk_eqa (q := 0) K rfl Ayd
    obtain ⟨u2, u3, u4, u5, u6, u7, u8, u9, u10, u11, u12, u13, u14, bu2, bu3, bu4, bu5, bu6, bu7, bu8, bu9, bu10, bu11, bu12, bu13, bu14, A15⟩ := xq_115 K.1
    have hu := hF u12 (xl_of A15 rfl)
    have zu := xnt hu (by omega)
    refine xi_iload_n (pc' := 8) (x := x1) kc_69_7 rfl rfl ?_
    refine xi_bipush (pc' := 10) (v := 24) kc_69_8 rfl rfl ?_
    by_cases c16 : 24 ≤ x1.toInt
    · refine xi_cmt (pc' := 49) kc_69_10 rfl (xc_ge_t (X := x1.toInt) (Y := 24) rfl (by decide) (by omega)) ?_
      refine xi_return kc_69_49 mr_69 ?_
      have e24 : x1.toNatClampNeg = 24 := by omega
      rw [e24] at hk hu
      exact kk h yk u12 K (xl_of A15 rfl) hu AK hyk ryk hk
    · refine xi_cmf (pc' := 13) kc_69_10 rfl (xc_ge_f (X := x1.toInt) (Y := 24) rfl (by decide) (by omega)) ?_
      refine xi_aload_n (pc' := 14) (x := 115) kc_69_13 rfl rfl ?_
      refine xi_getfield (pc' := 17) (v := .ref 158) kc_69_14 rfl rfl rfl A15 rfl ?_
      refine xi_iload_n (pc' := 18) (x := x1) kc_69_17 rfl rfl ?_
      obtain ⟨v17, ev17, bv17, dv17⟩ := xj_get hyd ryd (i := x1) (by omega) (by omega)
      refine xi_iaload (pc' := 19) (v := v17) kc_69_18 rfl A1 (by decide) rfl (xi_in (by omega) (by rw [hyd]; omega)) ev17 ?_
      refine xi_iconst (pc' := 20) (v := 2) kc_69_19 rfl rfl ?_
      by_cases c18 : 2 ≤ v17.toInt
      · refine xi_cmt (pc' := 43) kc_69_20 rfl (xc_ge_t (X := v17.toInt) (Y := 2) rfl (by decide) (by omega)) ?_
        obtain ⟨v19, ev19⟩ : ∃ q : Int32, x1 + 1 = q := ⟨_, rfl⟩
        have zv19 : v19.toInt = (x1.toInt + 1) := by rw [← ev19]; exact (xz_add (X := x1.toInt) (Y := 1) rfl (by decide) (by omega) (by omega)).trans (by omega)
        refine xi_iinc (pc' := 46) (x := x1) (v := v19) (lv' := [(1, .int v19), (0, .ref 115)]) kc_69_43 rfl rfl ev19 rfl (xm_lt ml_69 rfl) ?_
        refine xi_goto (pc' := 7) kc_69_46 rfl ?_
        have ff20 : (yd.getD (Int32.toNatClampNeg x1) 0).toInt = v17.toInt := by rw [ev17]
        refine xw_lv (b := [(0, .ref 115), (1, .int v19)]) (lvS_cons (lvS_cons (lvS_nil (show ([1, 0] : List Nat).Nodup by decide)) rfl) rfl) ?_
        exact ih v19 h yk (by omega) K (fun v e => (xl_val (u := u12) A15 rfl e) ▸ (xk_st0 hu (by omega) rfl b1.1 (by omega))) AK hyk ryk (xw_st0 hk (by omega) b1.1 (by omega)) (by omega)
      · refine xi_cmf (pc' := 23) kc_69_20 rfl (xc_ge_f (X := v17.toInt) (Y := 2) rfl (by decide) (by omega)) ?_
        refine xi_aload_n (pc' := 24) (x := 115) kc_69_23 rfl rfl ?_
        refine xi_getfield (pc' := 27) (v := .ref 159) kc_69_24 rfl rfl rfl A15 rfl ?_
        refine xi_aload_n (pc' := 28) (x := 115) kc_69_27 rfl rfl ?_
        refine xi_getfield (pc' := 31) (v := .int u12) kc_69_28 rfl rfl rfl A15 rfl ?_
        refine xi_iload_n (pc' := 32) (x := x1) kc_69_31 rfl rfl ?_
        have t21 : 0 ≤ u12.toInt ∧ u12.toInt ≤ 23 := by omega
        obtain ⟨y22, s22, hy22, ry22⟩ := xj_set (v := x1) hyk ryk u12 (by first | omega | decide) (by first | omega | decide)
        refine xi_iastore (pc' := 33) (x' := y22) kc_69_32 rfl AK rfl (xi_in (by omega) (by rw [hyk]; omega)) s22 (fun hh22 eh22 => ?_)
        have K23 := xk_pa K (xk_wa rfl) xD_159 hy22 ry22 eh22
        refine xi_aload_n (pc' := 34) (x := 115) kc_69_33 rfl rfl ?_
        refine xi_dup (pc' := 35) kc_69_34 rfl rfl ?_
        have A24 := ((eh22.2.1 115 (by decide)).trans A15)
        refine xi_getfield (pc' := 38) (v := .int u12) kc_69_35 rfl rfl rfl A24 rfl ?_
        refine xi_iconst (pc' := 39) (v := 1) kc_69_38 rfl rfl ?_
        obtain ⟨v25, ev25⟩ : ∃ q : Int32, u12 + 1 = q := ⟨_, rfl⟩
        have zv25 : v25.toInt = (u12.toInt + 1) := by rw [← ev25]; exact (xz_add (X := u12.toInt) (Y := 1) rfl (by decide) (by omega) (by omega)).trans (by omega)
        refine xi_iadd (pc' := 40) (v := v25) kc_69_39 rfl ev25 ?_
        refine xi_putfield (pc' := 43) (fs' := [.int u2, .int u3, .ref 116, .ref 117, .ref 118, .ref 119, .ref 120, .ref 121, .ref 122, .ref 123, .ref 124, .ref 125, .ref 126, .ref 127, .ref 128, .ref 129, .int u4, .ref 130, .int u5, .ref 131, .ref 132, .ref 133, .ref 134, .int u6, .ref 135, .ref 136, .ref 137, .ref 138, .ref 139, .ref 140, .ref 141, .ref 142, .int u7, .int u8, .int u9, .ref 143, .ref 144, .ref 145, .ref 146, .ref 147, .ref 148, .int u10, .ref 149, .ref 150, .ref 151, .int u11, .ref 152, .ref 153, .ref 154, .ref 155, .ref 156, .ref 157, .ref 158, .ref 159, .int v25, .ref 160, .int u13, .ref 161, .ref 162, .ref 163, .ref 164, .int u14, .ref 165, .ref 166]) kc_69_40 rfl rfl rfl A24 rfl rfl rfl (Nat.le_of_ble_eq_true rfl) rfl (fun hh27 eh26 => ?_)
        have K28 := xk_pf (k := 54) (v := v25) K23 (xk_wf rfl) xD_115 A24 rfl (by first | omega | decide) (by first | omega | decide) eh26 rfl
        obtain ⟨v29, ev29⟩ : ∃ q : Int32, x1 + 1 = q := ⟨_, rfl⟩
        have zv29 : v29.toInt = (x1.toInt + 1) := by rw [← ev29]; exact (xz_add (X := x1.toInt) (Y := 1) rfl (by decide) (by omega) (by omega)).trans (by omega)
        refine xi_iinc (pc' := 46) (x := x1) (v := v29) (lv' := [(1, .int v29), (0, .ref 115)]) kc_69_43 rfl rfl ev29 rfl (xm_lt ml_69 rfl) ?_
        refine xi_goto (pc' := 7) kc_69_46 rfl ?_
        have ff30 : (yd.getD (Int32.toNatClampNeg x1) 0).toInt = v17.toInt := by rw [ev17]
        refine xw_lv (b := [(0, .ref 115), (1, .int v29)]) (lvS_cons (lvS_cons (lvS_nil (show ([1, 0] : List Nat).Nodup by decide)) rfl) rfl) ?_
        have A31 := ((eh26.2.1 159 (by decide)).trans eh22.1)
        exact ih v29 hh27 y22 (by omega) K28 (fun v e => (xl_val (u := v25) eh26.1 rfl e) ▸ (xk_st1 hu (by omega) (by omega) b1.1 (by omega) (by omega))) A31 hy22 ry22 (xf_st1 hk hyk hu (by omega) b1.1 (by omega) (by omega) s22) (by omega)
set_option maxHeartbeats 4000000 in
theorem xw_fk {J : xe_J} {ov : List (List Int32)} (hJ : ∀ d mj as h, mj ≠ xe_loff → J d mj as h = none) (hov1 : ov[1]? = some [10, 0, 0, 0, 0, 0]) (hov2 : ov[2]? = some [99, 30, 50, 50, 1, 99999]) {d : Nat} {Q : Option Value → xe_H → Prop} {hb : xe_H} (T : xt hb) {yd : List Int32} (Ayd : hb[158]? = some (.inl (0, .inl yd))) (hyd : yd.length = 24) (ryd : ∀ i, i < 24 → 0 ≤ (yd.getD i 0).toInt ∧ (yd.getD i 0).toInt ≤ 2) (kk : ∀ (h' : xe_H) (yk : List Int32) (v : Int32), xk [(81, 0), (82, 0), (83, 0), (156, 0), (157, 0), (158, 0), (84, 0)] hb h' → xl h' (115, 54) = some (.inl (.int v)) → v = nI (xkc yd 24) → h'[159]? = some (.inl (0, .inl yk)) → yk.length = 24 → (∀ i, i < 24 → 0 ≤ (yk.getD i 0).toInt ∧ (yk.getD i 0).toInt ≤ 23) → (∀ q, q < xkc yd 24 → yk.getD q 0 = nI (xK yd q)) → Q none h') : xw J ov (d + 3) 69 (0, [(0, .ref 115)], [], hb) Q := by
  have zc0 : (0 : Int32).toInt = 0 := by decide
  have K : xk [(81, 0), (82, 0), (83, 0), (156, 0), (157, 0), (158, 0), (84, 0)] hb hb := xk_re T
  refine xi_aload_n (pc' := 1) (x := 115) kc_69_0 rfl rfl ?_
  refine xi_iconst (pc' := 2) (v := 0) kc_69_1 rfl rfl ?_
  obtain ⟨u1, u2, u3, u4, u5, u6, u7, u8, u9, u10, u11, u12, u13, bu1, bu2, bu3, bu4, bu5, bu6, bu7, bu8, bu9, bu10, bu11, bu12, bu13, A14⟩ := xq_115 K.1
  refine xi_putfield (pc' := 5) (fs' := [.int u1, .int u2, .ref 116, .ref 117, .ref 118, .ref 119, .ref 120, .ref 121, .ref 122, .ref 123, .ref 124, .ref 125, .ref 126, .ref 127, .ref 128, .ref 129, .int u3, .ref 130, .int u4, .ref 131, .ref 132, .ref 133, .ref 134, .int u5, .ref 135, .ref 136, .ref 137, .ref 138, .ref 139, .ref 140, .ref 141, .ref 142, .int u6, .int u7, .int u8, .ref 143, .ref 144, .ref 145, .ref 146, .ref 147, .ref 148, .int u9, .ref 149, .ref 150, .ref 151, .int u10, .ref 152, .ref 153, .ref 154, .ref 155, .ref 156, .ref 157, .ref 158, .ref 159, .int 0, .ref 160, .int u12, .ref 161, .ref 162, .ref 163, .ref 164, .int u13, .ref 165, .ref 166]) kc_69_2 rfl rfl rfl A14 rfl rfl rfl (Nat.le_of_ble_eq_true rfl) rfl (fun hh16 eh15 => ?_)
  have K17 := xk_pf (k := 54) (v := 0) K (xk_wf rfl) xD_115 A14 rfl (by first | omega | decide) (by first | omega | decide) eh15 rfl
  refine xi_iconst (pc' := 6) (v := 0) kc_69_5 rfl rfl ?_
  refine xi_istore_n (pc' := 7) (lv' := [(1, .int 0), (0, .ref 115)]) kc_69_6 rfl rfl (xm_lt ml_69 rfl) ?_
  obtain ⟨yk, AK, hyk, ryk⟩ := xk_arr K17.1 xD_159
  refine xw_lv (b := [(0, .ref 115), (1, .int 0)]) (lvS_cons (lvS_cons (lvS_nil (show ([1, 0] : List Nat).Nodup by decide)) rfl) rfl) ?_
  exact fk_lp hJ hov1 hov2 Ayd hyd ryd kk 25 0 hh16 yk (by omega) K17 (fun v e => (xl_val (u := 0) eh15.1 rfl e) ▸ rfl) AK hyk ryk (fun q hq => absurd hq (Nat.not_lt_zero _)) (by omega)
set_option maxHeartbeats 4000000 in
theorem on_lp {J : xe_J} {ov : List (List Int32)} {d : Nat} {Q : Option Value → xe_H → Prop} {h : xe_H} {tot : Nat} (kk : Q (some (.int (nI tot))) h) : ∀ (m f : Nat) (x1 x2 : Int32), (0 ≤ x2.toInt ∧ x2.toInt ≤ 65535) → x2.toInt.toNat < 2 ^ f → nI tot = x1 + nI (xon f x2.toInt.toNat) → f < m → xw J ov d 49 (4, [(1, .int x1), (2, .int x2)], [], h) Q := by
  intro m
  induction m with
  | zero => intro f x1 x2 b2 hf hE hm; exfalso; omega
  | succ m ih =>
    intro f x1 x2 b2 hf hE hm
    have rx1 := xc_rng x1
    refine xi_iload_n (pc' := 5) (x := x2) kc_49_4 rfl rfl ?_
    by_cases c1 : x2.toInt ≤ 0
    · refine xi_ift (pc' := 21) kc_49_5 rfl (xc_le_t (X := x2.toInt) (Y := 0) rfl (by decide) (by omega)) ?_
      refine xi_iload_n (pc' := 22) (x := x1) kc_49_21 rfl rfl ?_
      refine xi_ireturn kc_49_22 mr_49 rfl ?_
      rw [xon_ex hE (by omega) b2.1] at kk
      exact kk
    · refine xi_iff (pc' := 8) kc_49_5 rfl (xc_le_f (X := x2.toInt) (Y := 0) rfl (by decide) (by omega)) ?_
      refine xi_iload_n (pc' := 9) (x := x1) kc_49_8 rfl rfl ?_
      refine xi_iload_n (pc' := 10) (x := x2) kc_49_9 rfl rfl ?_
      refine xi_iconst (pc' := 11) (v := 2) kc_49_10 rfl rfl ?_
      obtain ⟨v2, ev2⟩ : ∃ q : Int32, x2 - x2 / 2 * 2 = q := ⟨_, rfl⟩
      have dv2 : v2.toInt = x2.toInt % 2 := by rw [← ev2]; exact xz_reme (X := x2.toInt) (Y := 2) rfl (by decide) (by omega) (by decide)
      have bv2 : 0 ≤ v2.toInt ∧ v2.toInt ≤ 1 := by omega
      refine xi_irem (pc' := 12) (v := v2) kc_49_11 rfl ev2 (by decide) ?_
      obtain ⟨v3, ev3⟩ : ∃ q : Int32, (x1 : Int32) + v2 = q := ⟨_, rfl⟩
      have rv3 := xc_rng v3
      refine xi_iadd (pc' := 13) (v := v3) kc_49_12 rfl ev3 ?_
      refine xi_istore_n (pc' := 14) (lv' := [(1, .int v3), (2, .int x2)]) kc_49_13 rfl rfl (xm_lt ml_49 rfl) ?_
      refine xi_iload_n (pc' := 15) (x := x2) kc_49_14 rfl rfl ?_
      refine xi_iconst (pc' := 16) (v := 2) kc_49_15 rfl rfl ?_
      obtain ⟨v4, ev4⟩ : ∃ q : Int32, x2 / 2 = q := ⟨_, rfl⟩
      have dv4 : v4.toInt = x2.toInt / 2 := by rw [← ev4]; exact xz_dive (X := x2.toInt) (Y := 2) rfl (by decide) (by omega) (by decide)
      have bv4 : 0 ≤ v4.toInt ∧ v4.toInt ≤ 32767 := by omega
      refine xi_idiv (pc' := 17) (v := v4) kc_49_16 rfl ev4 (by decide) ?_
      refine xi_istore_n (pc' := 18) (lv' := [(2, .int v4), (1, .int v3)]) kc_49_17 rfl rfl (xm_lt ml_49 rfl) ?_
      refine xi_goto (pc' := 4) kc_49_18 rfl ?_
      refine xw_lv (b := [(1, .int v3), (2, .int v4)]) (lvS_cons (lvS_cons (lvS_nil (show ([2, 1] : List Nat).Nodup by decide)) rfl) rfl) ?_
      obtain ⟨f0, hf0, hf1, hf2⟩ := xon_st (r := v2) (w := v4) hE hf (by omega) dv2 dv4 ev3
      exact ih f0 v3 v4 (by omega) hf1 hf2 (by omega)
theorem xw_ones {J : xe_J} {ov : List (List Int32)} {d : Nat} {Q : Option Value → xe_H → Prop} {h : xe_H} {x0 : Int32} {n : Nat} (hx : x0 = nI n) (hn : n < 65536) {r : Int32} (er : nI (xon 16 n) = r) (kk : Q (some (.int r)) h) : xw J ov d 49 (0, [(0, .int x0)], [], h) Q := by
  subst er
  have z0 := xnt hx (by omega)
  refine xi_iconst (pc' := 1) (v := 0) kc_49_0 rfl rfl ?_
  refine xi_istore_n (pc' := 2) (lv' := [(1, .int 0), (0, .int x0)]) kc_49_1 rfl rfl (xm_lt ml_49 rfl) ?_
  refine xi_iload_n (pc' := 3) (x := x0) kc_49_2 rfl rfl ?_
  refine xi_istore_n (pc' := 4) (lv' := [(2, .int x0), (1, .int 0), (0, .int x0)]) kc_49_3 rfl rfl (xm_lt ml_49 rfl) ?_
  refine xw_lv (b := [(1, .int 0), (2, .int x0)]) (lvS_cons (lvS_cons (lvS_nil (show ([2, 1, 0] : List Nat).Nodup by decide)) rfl) rfl) ?_
  exact on_lp kk 17 16 0 x0 (by omega) (by omega) (by rw [Int32.zero_add, show x0.toInt.toNat = n by omega]) (by omega)
set_option maxHeartbeats 8000000 in
theorem cb_lp {J : xe_J} {ov : List (List Int32)} (hJ : ∀ d mj as h, mj ≠ xe_loff → J d mj as h = none) (hov1 : ov[1]? = some [10, 0, 0, 0, 0, 0]) (hov2 : ov[2]? = some [99, 30, 50, 50, 1, 99999]) {d : Nat} {Q : Option Value → xe_H → Prop} {hb : xe_H} {ys : List Int32} {yf : List Int32} {yd : List Int32} (Ays : hb[156]? = some (.inl (0, .inl ys))) (hys : ys.length = 24) (rys : ∀ i, i < 24 → 0 ≤ (ys.getD i 0).toInt ∧ (ys.getD i 0).toInt ≤ 3) (Ayf : hb[157]? = some (.inl (0, .inl yf))) (hyf : yf.length = 24) (ryf : ∀ i, i < 24 → 0 ≤ (yf.getD i 0).toInt ∧ (yf.getD i 0).toInt ≤ 5) (Ayd : hb[158]? = some (.inl (0, .inl yd))) (hyd : yd.length = 24) (ryd : ∀ i, i < 24 → 0 ≤ (yd.getD i 0).toInt ∧ (yd.getD i 0).toInt ≤ 2) {n : Nat} (en : n = xkc yd 24) (hn : n ≤ 16) {xn : Int32} (F54 : xl hb (115, 54) = some (.inl (.int xn))) (exn : xn = nI n) {yk : List Int32} (AK : hb[159]? = some (.inl (0, .inl yk))) (hyk : yk.length = 24) (ryk : ∀ i, i < 24 → 0 ≤ (yk.getD i 0).toInt ∧ (yk.getD i 0).toInt ≤ 23) (hk : ∀ q, q < n → yk.getD q 0 = nI (xK yd q)) {x1 : Int32} (b1 : 0 ≤ x1.toInt ∧ x1.toInt ≤ 1) (kk : ∀ (h' : xe_H) (Bs : List Int32), xk [(81, 0), (82, 0), (83, 0), (156, 0), (157, 0), (158, 0), (84, 0), (115, 54), (159, 0)] hb h' → h'[160]? = some (.inl (0, .inl Bs)) → Bs.length = 24 → (∀ q, q < n → Bs.getD q 0 = nI (xbb ys yf yd q)) → ∀ lv : List (Nat × Value), lvS lv [(0, .ref 115), (1, .int x1), (2, .int (nI (xrd yd n)))] → xw J ov (d + 6) 68 (132, lv, [], h') Q) : ∀ m : Nat, (∀ (x2 x3 : Int32) (h : xe_H) (Bs : List Int32), (0 ≤ x3.toInt ∧ x3.toInt ≤ (n : Int)) → x2 = nI (xrd yd x3.toNatClampNeg) → xk [(81, 0), (82, 0), (83, 0), (156, 0), (157, 0), (158, 0), (84, 0), (115, 54), (159, 0)] hb h → h[160]? = some (.inl (0, .inl Bs)) → Bs.length = 24 → (∀ q, q < x3.toNatClampNeg → Bs.getD q 0 = nI (xbb ys yf yd q)) → 40 * ((n : Int) - x3.toInt) + 20 < (m : Int) → xw J ov (d + 6) 68 (45, [(0, .ref 115), (1, .int x1), (2, .int x2), (3, .int x3)], [], h) Q) ∧ (∀ (x2 x3 x4 : Int32) (h : xe_H) (Bs : List Int32), (0 ≤ x3.toInt ∧ x3.toInt < (n : Int)) → (0 ≤ x4.toInt ∧ x4.toInt ≤ x3.toInt) → x2 = nI (xrd yd (x3.toNatClampNeg + 1)) → xk [(81, 0), (82, 0), (83, 0), (156, 0), (157, 0), (158, 0), (84, 0), (115, 54), (159, 0)] hb h → h[160]? = some (.inl (0, .inl Bs)) → Bs.length = 24 → (∀ q, q < x3.toNatClampNeg → Bs.getD q 0 = nI (xbb ys yf yd q)) → Bs.getD x3.toNatClampNeg 0 = nI (xrn ys yf (xK yd) (xK yd x3.toNatClampNeg) x4.toNatClampNeg) → 40 * ((n : Int) - x3.toInt) - x4.toInt < (m : Int) → xw J ov (d + 6) 68 (77, [(0, .ref 115), (1, .int x1), (2, .int x2), (3, .int x3), (4, .int x4)], [], h) Q) := by
  intro m
  induction m with
  | zero =>
    refine ⟨?_, ?_⟩
    · intro x2 x3 h Bs b3 hE K AB hBs hB hm; exfalso; omega
    · intro x2 x3 x4 h Bs b3 b4 hE K AB hBs hB hC hm; exfalso; omega
  | succ m ih =>
    obtain ⟨i0, i1⟩ := ih
    refine ⟨?_, ?_⟩
    · intro x2 x3 h Bs b3 hE K AB hBs hB hm
      have qx3 := xj_tn b3.1
      have hrd := xrd_le ryd x3.toNatClampNeg (by omega)
      have zx2 := xnt hE (by omega)
      have rBs : ∀ i, i < 24 → (-2147483648) ≤ (Bs.getD i 0).toInt ∧ (Bs.getD i 0).toInt ≤ 2147483647 := fun i _ => ⟨(xc_rng _).1, by have := (xc_rng (Bs.getD i 0)).2; omega⟩
      have A1 := xk_eqa (q := 0) K rfl Ays
      have A2 := xk_eqa (q := 0) K rfl Ayf
      have A3 := xk_eqa (q := 0) K rfl Ayd
      have A4 := xk_eqa (q := 0) K rfl AK
      obtain ⟨u5, u6, u7, u8, u9, u10, u11, u12, u13, u14, u15, u16, u17, bu5, bu6, bu7, bu8, bu9, bu10, bu11, bu12, bu13, bu14, bu15, bu16, bu17, A18⟩ := xq_115 K.1
      have eu : u15 = xn := xl_val A18 rfl ((K.2.1 (115, 54) rfl).trans F54)
      subst eu
      have zn := xnt exn (by omega)
      refine xi_iload_n (pc' := 46) (x := x3) kc_68_45 rfl rfl ?_
      refine xi_aload_n (pc' := 47) (x := 115) kc_68_46 rfl rfl ?_
      refine xi_getfield (pc' := 50) (v := .int u15) kc_68_47 rfl rfl rfl A18 rfl ?_
      by_cases c19 : u15.toInt ≤ x3.toInt
      · refine xi_cmt (pc' := 132) kc_68_50 rfl (xc_ge_t (X := x3.toInt) (Y := u15.toInt) rfl rfl (by omega)) ?_
        have e3n : x3.toNatClampNeg = n := by omega
        rw [e3n] at hB hE
        subst hE
        exact kk h Bs K AB hBs hB _ (lvS_cons (lvS_cons (lvS_cons (lvS_nil (show ([0, 1, 2, 3] : List Nat).Nodup by decide)) rfl) rfl) rfl)
      · refine xi_cmf (pc' := 53) kc_68_50 rfl (xc_ge_f (X := x3.toInt) (Y := u15.toInt) rfl rfl (by omega)) ?_
        refine xi_iload_n (pc' := 54) (x := x2) kc_68_53 rfl rfl ?_
        refine xi_aload_n (pc' := 55) (x := 115) kc_68_54 rfl rfl ?_
        refine xi_getfield (pc' := 58) (v := .ref 158) kc_68_55 rfl rfl rfl A18 rfl ?_
        refine xi_aload_n (pc' := 59) (x := 115) kc_68_58 rfl rfl ?_
        refine xi_getfield (pc' := 62) (v := .ref 159) kc_68_59 rfl rfl rfl A18 rfl ?_
        refine xi_iload_n (pc' := 63) (x := x3) kc_68_62 rfl rfl ?_
        obtain ⟨v20, ev20, bv20, dv20⟩ := xj_get hyk ryk (i := x3) (by omega) (by omega)
        refine xi_iaload (pc' := 64) (v := v20) kc_68_63 rfl A4 (by decide) rfl (xi_in (by omega) (by rw [hyk]; omega)) ev20 ?_
        obtain ⟨v21, ev21, bv21, dv21⟩ := xj_get hyd ryd (i := v20) (by omega) (by omega)
        refine xi_iaload (pc' := 65) (v := v21) kc_68_64 rfl A3 (by decide) rfl (xi_in (by omega) (by rw [hyd]; omega)) ev21 ?_
        obtain ⟨v22, ev22⟩ : ∃ q : Int32, x2 + v21 = q := ⟨_, rfl⟩
        have zv22 : v22.toInt = (x2.toInt + v21.toInt) := by rw [← ev22]; exact (xz_add (X := x2.toInt) (Y := v21.toInt) rfl rfl (by omega) (by omega)).trans (by omega)
        refine xi_iadd (pc' := 66) (v := v22) kc_68_65 rfl ev22 ?_
        refine xi_istore_n (pc' := 67) (lv' := [(2, .int v22), (0, .ref 115), (1, .int x1), (3, .int x3)]) kc_68_66 rfl rfl (xm_lt ml_68 rfl) ?_
        refine xi_aload_n (pc' := 68) (x := 115) kc_68_67 rfl rfl ?_
        refine xi_getfield (pc' := 71) (v := .ref 160) kc_68_68 rfl rfl rfl A18 rfl ?_
        refine xi_iload_n (pc' := 72) (x := x3) kc_68_71 rfl rfl ?_
        refine xi_iconst (pc' := 73) (v := 0) kc_68_72 rfl rfl ?_
        obtain ⟨y23, s23, hy23, ry23⟩ := xj_set (v := 0) hBs rBs x3 (by first | omega | decide) (by first | omega | decide)
        refine xi_iastore (pc' := 74) (x' := y23) kc_68_73 rfl AB rfl (xi_in (by omega) (by rw [hBs]; omega)) s23 (fun hh23 eh23 => ?_)
        have K24 := xk_pa K (xk_wa rfl) xD_160 hy23 ry23 eh23
        refine xi_iconst (pc' := 75) (v := 0) kc_68_74 rfl rfl ?_
        refine xi_istore (pc' := 77) (lv' := [(4, .int 0), (2, .int v22), (0, .ref 115), (1, .int x1), (3, .int x3)]) kc_68_75 rfl rfl (xm_lt ml_68 rfl) ?_
        have kqx3 := xK_is (yd := yd) (q := x3.toNatClampNeg) 24 (Nat.le_refl _) (by omega)
        have kvx3 : v20.toInt = ((xK yd x3.toNatClampNeg : Nat) : Int) := xnt (by rw [← ev20]; exact hk _ (by omega)) (by omega)
        have kcx3 := xcl kvx3
        have ff25 : (yk.getD (Int32.toNatClampNeg x3) 0).toInt = v20.toInt := by rw [ev20]
        have ff26 : (yd.getD (Int32.toNatClampNeg v20) 0).toInt = v21.toInt := by rw [ev21]
        refine xw_lv (b := [(0, .ref 115), (1, .int x1), (2, .int v22), (3, .int x3), (4, .int 0)]) (lvS_cons (lvS_cons (lvS_cons (lvS_cons (lvS_cons (lvS_nil (show ([4, 2, 0, 1, 3] : List Nat).Nodup by decide)) rfl) rfl) rfl) rfl) rfl) ?_
        have zc0 : (0 : Int32).toInt = 0 := by decide
        exact i1 v22 x3 0 hh23 y23 (by omega) (by omega) (xc_st hE (by omega) kcx3 (by omega)) K24 eh23.1 hy23 (xc_b0 hB s23) (xc_c0 hBs (by omega) b3.1 s23) (by omega)
    · intro x2 x3 x4 h Bs b3 b4 hE K AB hBs hB hC hm
      have qx3 := xj_tn b3.1
      have hrd := xrd_le ryd (x3.toNatClampNeg + 1) (by omega)
      have zx2 := xnt hE (by omega)
      have rBs : ∀ i, i < 24 → (-2147483648) ≤ (Bs.getD i 0).toInt ∧ (Bs.getD i 0).toInt ≤ 2147483647 := fun i _ => ⟨(xc_rng _).1, by have := (xc_rng (Bs.getD i 0)).2; omega⟩
      have A1 := xk_eqa (q := 0) K rfl Ays
      have A2 := xk_eqa (q := 0) K rfl Ayf
      have A3 := xk_eqa (q := 0) K rfl Ayd
      have A4 := xk_eqa (q := 0) K rfl AK
      obtain ⟨u5, u6, u7, u8, u9, u10, u11, u12, u13, u14, u15, u16, u17, bu5, bu6, bu7, bu8, bu9, bu10, bu11, bu12, bu13, bu14, bu15, bu16, bu17, A18⟩ := xq_115 K.1
      have eu : u15 = xn := xl_val A18 rfl ((K.2.1 (115, 54) rfl).trans F54)
      subst eu
      have zn := xnt exn (by omega)
      have qx4 := xj_tn b4.1
      refine xi_iload (pc' := 79) (x := x4) kc_68_77 rfl rfl ?_
      refine xi_iload_n (pc' := 80) (x := x3) kc_68_79 rfl rfl ?_
      by_cases c19 : x3.toInt ≤ x4.toInt
      · refine xi_cmt (pc' := 126) kc_68_80 rfl (xc_ge_t (X := x4.toInt) (Y := x3.toInt) rfl rfl (by omega)) ?_
        obtain ⟨v20, ev20⟩ : ∃ q : Int32, x3 + 1 = q := ⟨_, rfl⟩
        have zv20 : v20.toInt = (x3.toInt + 1) := by rw [← ev20]; exact (xz_add (X := x3.toInt) (Y := 1) rfl (by decide) (by omega) (by omega)).trans (by omega)
        refine xi_iinc (pc' := 129) (x := x3) (v := v20) (lv' := [(3, .int v20), (0, .ref 115), (1, .int x1), (2, .int x2), (4, .int x4)]) kc_68_126 rfl rfl ev20 rfl (xm_lt ml_68 rfl) ?_
        refine xi_goto (pc' := 45) kc_68_129 rfl ?_
        refine xw_lv (b := [(0, .ref 115), (1, .int x1), (2, .int x2), (3, .int v20)]) (lvS_cons (lvS_cons (lvS_cons (lvS_cons (lvS_nil (show ([3, 0, 1, 2, 4] : List Nat).Nodup by decide)) rfl) rfl) rfl) rfl) ?_
        exact i0 x2 v20 h Bs (by omega) (xc_ed hE b3.1 (by omega)) K AB hBs (xc_eb hB hC b3.1 (by omega) (by omega)) (by omega)
      · refine xi_cmf (pc' := 83) kc_68_80 rfl (xc_ge_f (X := x4.toInt) (Y := x3.toInt) rfl rfl (by omega)) ?_
        refine xi_aload_n (pc' := 84) (x := 115) kc_68_83 rfl rfl ?_
        refine xi_getfield (pc' := 87) (v := .ref 160) kc_68_84 rfl rfl rfl A18 rfl ?_
        refine xi_iload_n (pc' := 88) (x := x3) kc_68_87 rfl rfl ?_
        refine xi_dup2 (pc' := 89) kc_68_88 rfl ⟨rfl, rfl⟩ ?_
        obtain ⟨v21, ev21, bv21, dv21⟩ := xj_get hBs rBs (i := x3) (by omega) (by omega)
        refine xi_iaload (pc' := 90) (v := v21) kc_68_89 rfl AB (by decide) rfl (xi_in (by omega) (by rw [hBs]; omega)) ev21 ?_
        refine xi_aload_n (pc' := 91) (x := 115) kc_68_90 rfl rfl ?_
        refine xi_aload_n (pc' := 92) (x := 115) kc_68_91 rfl rfl ?_
        refine xi_getfield (pc' := 95) (v := .ref 159) kc_68_92 rfl rfl rfl A18 rfl ?_
        refine xi_iload_n (pc' := 96) (x := x3) kc_68_95 rfl rfl ?_
        obtain ⟨v22, ev22, bv22, dv22⟩ := xj_get hyk ryk (i := x3) (by omega) (by omega)
        refine xi_iaload (pc' := 97) (v := v22) kc_68_96 rfl A4 (by decide) rfl (xi_in (by omega) (by rw [hyk]; omega)) ev22 ?_
        refine xi_aload_n (pc' := 98) (x := 115) kc_68_97 rfl rfl ?_
        refine xi_getfield (pc' := 101) (v := .ref 159) kc_68_98 rfl rfl rfl A18 rfl ?_
        refine xi_iload (pc' := 103) (x := x4) kc_68_101 rfl rfl ?_
        obtain ⟨v23, ev23, bv23, dv23⟩ := xj_get hyk ryk (i := x4) (by omega) (by omega)
        refine xi_iaload (pc' := 104) (v := v23) kc_68_103 rfl A4 (by decide) rfl (xi_in (by omega) (by rw [hyk]; omega)) ev23 ?_
        refine xi_virtual (mj := 67) (as := [.int v22, .int v23]) (st1 := [.int v21, .int x3, .ref 160]) (lv0 := [(0, .ref 115), (1, .int v22), (2, .int v23)]) kc_68_104 rfl rfl rfl rfl rfl A18 (Nat.le_of_ble_eq_true rfl) (hJ _ _ _ _ (by decide)) (xm_le ml_67 rfl) rfl ?_
        refine xi_aload_n (pc' := 1) (x := 115) kc_67_0 rfl rfl ?_
        refine xi_getfield (pc' := 4) (v := .ref 156) kc_67_1 rfl rfl rfl A18 rfl ?_
        refine xi_iload_n (pc' := 5) (x := v22) kc_67_4 rfl rfl ?_
        obtain ⟨v24, ev24, bv24, dv24⟩ := xj_get hys rys (i := v22) (by omega) (by omega)
        refine xi_iaload (pc' := 6) (v := v24) kc_67_5 rfl A1 (by decide) rfl (xi_in (by omega) (by rw [hys]; omega)) ev24 ?_
        refine xi_aload_n (pc' := 7) (x := 115) kc_67_6 rfl rfl ?_
        refine xi_getfield (pc' := 10) (v := .ref 156) kc_67_7 rfl rfl rfl A18 rfl ?_
        refine xi_iload_n (pc' := 11) (x := v23) kc_67_10 rfl rfl ?_
        obtain ⟨v25, ev25, bv25, dv25⟩ := xj_get hys rys (i := v23) (by omega) (by omega)
        refine xi_iaload (pc' := 12) (v := v25) kc_67_11 rfl A1 (by decide) rfl (xi_in (by omega) (by rw [hys]; omega)) ev25 ?_
        obtain ⟨v26, ev26⟩ : ∃ q : Int32, v24 - v25 = q := ⟨_, rfl⟩
        have zv26 : v26.toInt = (v24.toInt + (-1) * v25.toInt) := by rw [← ev26]; exact (xz_sub (X := v24.toInt) (Y := v25.toInt) rfl rfl (by omega) (by omega)).trans (by omega)
        refine xi_isub (pc' := 13) (v := v26) kc_67_12 rfl ev26 ?_
        refine xi_istore_n (pc' := 14) (lv' := [(3, .int v26), (0, .ref 115), (1, .int v22), (2, .int v23)]) kc_67_13 rfl rfl (xm_lt ml_67 rfl) ?_
        refine xi_aload_n (pc' := 15) (x := 115) kc_67_14 rfl rfl ?_
        refine xi_getfield (pc' := 18) (v := .ref 157) kc_67_15 rfl rfl rfl A18 rfl ?_
        refine xi_iload_n (pc' := 19) (x := v22) kc_67_18 rfl rfl ?_
        obtain ⟨v27, ev27, bv27, dv27⟩ := xj_get hyf ryf (i := v22) (by omega) (by omega)
        refine xi_iaload (pc' := 20) (v := v27) kc_67_19 rfl A2 (by decide) rfl (xi_in (by omega) (by rw [hyf]; omega)) ev27 ?_
        refine xi_aload_n (pc' := 21) (x := 115) kc_67_20 rfl rfl ?_
        refine xi_getfield (pc' := 24) (v := .ref 157) kc_67_21 rfl rfl rfl A18 rfl ?_
        refine xi_iload_n (pc' := 25) (x := v23) kc_67_24 rfl rfl ?_
        obtain ⟨v28, ev28, bv28, dv28⟩ := xj_get hyf ryf (i := v23) (by omega) (by omega)
        refine xi_iaload (pc' := 26) (v := v28) kc_67_25 rfl A2 (by decide) rfl (xi_in (by omega) (by rw [hyf]; omega)) ev28 ?_
        obtain ⟨v29, ev29⟩ : ∃ q : Int32, v27 - v28 = q := ⟨_, rfl⟩
        have zv29 : v29.toInt = (v27.toInt + (-1) * v28.toInt) := by rw [← ev29]; exact (xz_sub (X := v27.toInt) (Y := v28.toInt) rfl rfl (by omega) (by omega)).trans (by omega)
        refine xi_isub (pc' := 27) (v := v29) kc_67_26 rfl ev29 ?_
        refine xi_istore (pc' := 29) (lv' := [(4, .int v29), (3, .int v26), (0, .ref 115), (1, .int v22), (2, .int v23)]) kc_67_27 rfl rfl (xm_lt ml_67 rfl) ?_
        refine xi_iload_n (pc' := 30) (x := v26) kc_67_29 rfl rfl ?_
        by_cases c30 : (v24.toInt + (-1) * v25.toInt) = 0
        · refine xi_iff (pc' := 33) kc_67_30 rfl (xc_ne_f (X := (v24.toInt + (-1) * v25.toInt)) (Y := 0) zv26 (by decide) (by omega)) ?_
          refine xi_iload (pc' := 35) (x := v29) kc_67_33 rfl rfl ?_
          refine xi_iconst (pc' := 36) (v := 1) kc_67_35 rfl rfl ?_
          by_cases c31 : (v27.toInt + (-1) * v28.toInt) = 1
          · refine xi_cmt (pc' := 60) kc_67_36 rfl (xc_eq_t (X := (v27.toInt + (-1) * v28.toInt)) (Y := 1) zv29 (by decide) (by omega)) ?_
            refine xi_iconst (pc' := 61) (v := 1) kc_67_60 rfl rfl ?_
            refine xi_goto (pc' := 65) kc_67_61 rfl ?_
            refine xi_ireturn kc_67_65 mr_67 rfl ?_
            show xw J ov (d + 6) 68 (107, [(0, .ref 115), (1, .int x1), (2, .int x2), (3, .int x3), (4, .int x4)], [.int 1, .int v21, .int x3, .ref 160], h) _
            refine xi_iff (pc' := 110) kc_68_107 rfl rfl ?_
            refine xi_iconst (pc' := 111) (v := 1) kc_68_110 rfl rfl ?_
            refine xi_iload (pc' := 113) (x := x4) kc_68_111 rfl rfl ?_
            obtain ⟨v32, ev32⟩ : ∃ q : Int32, (1 : Int32) <<< (x4 &&& 31) = q := ⟨_, rfl⟩
            have rv32 := xc_rng v32
            refine xi_ishl (pc' := 114) (v := v32) kc_68_113 rfl ev32 ?_
            refine xi_goto (pc' := 118) kc_68_114 rfl ?_
            obtain ⟨v33, ev33⟩ : ∃ q : Int32, (v21 : Int32) ||| v32 = q := ⟨_, rfl⟩
            have rv33 := xc_rng v33
            refine xi_ior (pc' := 119) (v := v33) kc_68_118 rfl ev33 ?_
            obtain ⟨y34, s34, hy34, ry34⟩ := xj_set (v := v33) hBs rBs x3 (by first | omega | decide) (by first | omega | decide)
            refine xi_iastore (pc' := 120) (x' := y34) kc_68_119 rfl AB rfl (xi_in (by omega) (by rw [hBs]; omega)) s34 (fun hh34 eh34 => ?_)
            have K35 := xk_pa K (xk_wa rfl) xD_160 hy34 ry34 eh34
            obtain ⟨v36, ev36⟩ : ∃ q : Int32, x4 + 1 = q := ⟨_, rfl⟩
            have zv36 : v36.toInt = (x4.toInt + 1) := by rw [← ev36]; exact (xz_add (X := x4.toInt) (Y := 1) rfl (by decide) (by omega) (by omega)).trans (by omega)
            refine xi_iinc (pc' := 123) (x := x4) (v := v36) (lv' := [(4, .int v36), (0, .ref 115), (1, .int x1), (2, .int x2), (3, .int x3)]) kc_68_120 rfl rfl ev36 rfl (xm_lt ml_68 rfl) ?_
            refine xi_goto (pc' := 77) kc_68_123 rfl ?_
            have kqx3 := xK_is (yd := yd) (q := x3.toNatClampNeg) 24 (Nat.le_refl _) (by omega)
            have kvx3 : v22.toInt = ((xK yd x3.toNatClampNeg : Nat) : Int) := xnt (by rw [← ev22]; exact hk _ (by omega)) (by omega)
            have kcx3 := xcl kvx3
            have kqx4 := xK_is (yd := yd) (q := x4.toNatClampNeg) 24 (Nat.le_refl _) (by omega)
            have kvx4 : v23.toInt = ((xK yd x4.toNatClampNeg : Nat) : Int) := xnt (by rw [← ev23]; exact hk _ (by omega)) (by omega)
            have kcx4 := xcl kvx4
            have ff37 : (Bs.getD (Int32.toNatClampNeg x3) 0).toInt = v21.toInt := by rw [ev21]
            have ff38 : (yk.getD (Int32.toNatClampNeg x3) 0).toInt = v22.toInt := by rw [ev22]
            have ff39 : (yk.getD (Int32.toNatClampNeg x4) 0).toInt = v23.toInt := by rw [ev23]
            have ff40 : (ys.getD (Int32.toNatClampNeg v22) 0).toInt = v24.toInt := by rw [ev24]
            have ff41 : (ys.getD (Int32.toNatClampNeg v23) 0).toInt = v25.toInt := by rw [ev25]
            have ff42 : (yf.getD (Int32.toNatClampNeg v22) 0).toInt = v27.toInt := by rw [ev27]
            have ff43 : (yf.getD (Int32.toNatClampNeg v23) 0).toInt = v28.toInt := by rw [ev28]
            refine xw_lv (b := [(0, .ref 115), (1, .int x1), (2, .int x2), (3, .int x3), (4, .int v36)]) (lvS_cons (lvS_cons (lvS_cons (lvS_cons (lvS_cons (lvS_nil (show ([4, 0, 1, 2, 3] : List Nat).Nodup by decide)) rfl) rfl) rfl) rfl) rfl) ?_
            exact i1 x2 x3 v36 hh34 y34 (by omega) (by omega) hE K35 eh34.1 hy34 (xc_b0 hB s34) (xc_cy hC hBs (by omega) b3.1 b4.1 (by omega) (by omega) (by rw [← kcx3, ← kcx4]; unfold xbs; omega) ev32 ev21 ev33 s34) (by omega)
          · refine xi_cmf (pc' := 39) kc_67_36 rfl (xc_eq_f (X := (v27.toInt + (-1) * v28.toInt)) (Y := 1) zv29 (by decide) (by omega)) ?_
            refine xi_iload (pc' := 41) (x := v29) kc_67_39 rfl rfl ?_
            refine xi_iconst (pc' := 42) (v := (-1)) kc_67_41 rfl rfl ?_
            by_cases c44 : (v27.toInt + (-1) * v28.toInt) = (-1)
            · refine xi_cmt (pc' := 60) kc_67_42 rfl (xc_eq_t (X := (v27.toInt + (-1) * v28.toInt)) (Y := (-1)) zv29 (by decide) (by omega)) ?_
              refine xi_iconst (pc' := 61) (v := 1) kc_67_60 rfl rfl ?_
              refine xi_goto (pc' := 65) kc_67_61 rfl ?_
              refine xi_ireturn kc_67_65 mr_67 rfl ?_
              show xw J ov (d + 6) 68 (107, [(0, .ref 115), (1, .int x1), (2, .int x2), (3, .int x3), (4, .int x4)], [.int 1, .int v21, .int x3, .ref 160], h) _
              refine xi_iff (pc' := 110) kc_68_107 rfl rfl ?_
              refine xi_iconst (pc' := 111) (v := 1) kc_68_110 rfl rfl ?_
              refine xi_iload (pc' := 113) (x := x4) kc_68_111 rfl rfl ?_
              obtain ⟨v45, ev45⟩ : ∃ q : Int32, (1 : Int32) <<< (x4 &&& 31) = q := ⟨_, rfl⟩
              have rv45 := xc_rng v45
              refine xi_ishl (pc' := 114) (v := v45) kc_68_113 rfl ev45 ?_
              refine xi_goto (pc' := 118) kc_68_114 rfl ?_
              obtain ⟨v46, ev46⟩ : ∃ q : Int32, (v21 : Int32) ||| v45 = q := ⟨_, rfl⟩
              have rv46 := xc_rng v46
              refine xi_ior (pc' := 119) (v := v46) kc_68_118 rfl ev46 ?_
              obtain ⟨y47, s47, hy47, ry47⟩ := xj_set (v := v46) hBs rBs x3 (by first | omega | decide) (by first | omega | decide)
              refine xi_iastore (pc' := 120) (x' := y47) kc_68_119 rfl AB rfl (xi_in (by omega) (by rw [hBs]; omega)) s47 (fun hh47 eh47 => ?_)
              have K48 := xk_pa K (xk_wa rfl) xD_160 hy47 ry47 eh47
              obtain ⟨v49, ev49⟩ : ∃ q : Int32, x4 + 1 = q := ⟨_, rfl⟩
              have zv49 : v49.toInt = (x4.toInt + 1) := by rw [← ev49]; exact (xz_add (X := x4.toInt) (Y := 1) rfl (by decide) (by omega) (by omega)).trans (by omega)
              refine xi_iinc (pc' := 123) (x := x4) (v := v49) (lv' := [(4, .int v49), (0, .ref 115), (1, .int x1), (2, .int x2), (3, .int x3)]) kc_68_120 rfl rfl ev49 rfl (xm_lt ml_68 rfl) ?_
              refine xi_goto (pc' := 77) kc_68_123 rfl ?_
              have kqx3 := xK_is (yd := yd) (q := x3.toNatClampNeg) 24 (Nat.le_refl _) (by omega)
              have kvx3 : v22.toInt = ((xK yd x3.toNatClampNeg : Nat) : Int) := xnt (by rw [← ev22]; exact hk _ (by omega)) (by omega)
              have kcx3 := xcl kvx3
              have kqx4 := xK_is (yd := yd) (q := x4.toNatClampNeg) 24 (Nat.le_refl _) (by omega)
              have kvx4 : v23.toInt = ((xK yd x4.toNatClampNeg : Nat) : Int) := xnt (by rw [← ev23]; exact hk _ (by omega)) (by omega)
              have kcx4 := xcl kvx4
              have ff50 : (Bs.getD (Int32.toNatClampNeg x3) 0).toInt = v21.toInt := by rw [ev21]
              have ff51 : (yk.getD (Int32.toNatClampNeg x3) 0).toInt = v22.toInt := by rw [ev22]
              have ff52 : (yk.getD (Int32.toNatClampNeg x4) 0).toInt = v23.toInt := by rw [ev23]
              have ff53 : (ys.getD (Int32.toNatClampNeg v22) 0).toInt = v24.toInt := by rw [ev24]
              have ff54 : (ys.getD (Int32.toNatClampNeg v23) 0).toInt = v25.toInt := by rw [ev25]
              have ff55 : (yf.getD (Int32.toNatClampNeg v22) 0).toInt = v27.toInt := by rw [ev27]
              have ff56 : (yf.getD (Int32.toNatClampNeg v23) 0).toInt = v28.toInt := by rw [ev28]
              refine xw_lv (b := [(0, .ref 115), (1, .int x1), (2, .int x2), (3, .int x3), (4, .int v49)]) (lvS_cons (lvS_cons (lvS_cons (lvS_cons (lvS_cons (lvS_nil (show ([4, 0, 1, 2, 3] : List Nat).Nodup by decide)) rfl) rfl) rfl) rfl) rfl) ?_
              exact i1 x2 x3 v49 hh47 y47 (by omega) (by omega) hE K48 eh47.1 hy47 (xc_b0 hB s47) (xc_cy hC hBs (by omega) b3.1 b4.1 (by omega) (by omega) (by rw [← kcx3, ← kcx4]; unfold xbs; omega) ev45 ev21 ev46 s47) (by omega)
            · refine xi_cmf (pc' := 45) kc_67_42 rfl (xc_eq_f (X := (v27.toInt + (-1) * v28.toInt)) (Y := (-1)) zv29 (by decide) (by omega)) ?_
              refine xi_iload (pc' := 47) (x := v29) kc_67_45 rfl rfl ?_
              by_cases c57 : (v27.toInt + (-1) * v28.toInt) = 0
              · refine xi_iff (pc' := 50) kc_67_47 rfl (xc_ne_f (X := (v27.toInt + (-1) * v28.toInt)) (Y := 0) zv29 (by decide) (by omega)) ?_
                refine xi_iload_n (pc' := 51) (x := v26) kc_67_50 rfl rfl ?_
                refine xi_iconst (pc' := 52) (v := 1) kc_67_51 rfl rfl ?_
                refine xi_cmf (pc' := 55) kc_67_52 rfl (xc_eq_f (X := (v24.toInt + (-1) * v25.toInt)) (Y := 1) zv26 (by decide) (by omega)) ?_
                refine xi_iload_n (pc' := 56) (x := v26) kc_67_55 rfl rfl ?_
                refine xi_iconst (pc' := 57) (v := (-1)) kc_67_56 rfl rfl ?_
                refine xi_cmt (pc' := 64) kc_67_57 rfl (xc_ne_t (X := (v24.toInt + (-1) * v25.toInt)) (Y := (-1)) zv26 (by decide) (by omega)) ?_
                refine xi_iconst (pc' := 65) (v := 0) kc_67_64 rfl rfl ?_
                refine xi_ireturn kc_67_65 mr_67 rfl ?_
                show xw J ov (d + 6) 68 (107, [(0, .ref 115), (1, .int x1), (2, .int x2), (3, .int x3), (4, .int x4)], [.int 0, .int v21, .int x3, .ref 160], h) _
                refine xi_ift (pc' := 117) kc_68_107 rfl rfl ?_
                refine xi_iconst (pc' := 118) (v := 0) kc_68_117 rfl rfl ?_
                obtain ⟨v58, ev58⟩ : ∃ q : Int32, (v21 : Int32) ||| 0 = q := ⟨_, rfl⟩
                have rv58 := xc_rng v58
                refine xi_ior (pc' := 119) (v := v58) kc_68_118 rfl ev58 ?_
                obtain ⟨y59, s59, hy59, ry59⟩ := xj_set (v := v58) hBs rBs x3 (by first | omega | decide) (by first | omega | decide)
                refine xi_iastore (pc' := 120) (x' := y59) kc_68_119 rfl AB rfl (xi_in (by omega) (by rw [hBs]; omega)) s59 (fun hh59 eh59 => ?_)
                have K60 := xk_pa K (xk_wa rfl) xD_160 hy59 ry59 eh59
                obtain ⟨v61, ev61⟩ : ∃ q : Int32, x4 + 1 = q := ⟨_, rfl⟩
                have zv61 : v61.toInt = (x4.toInt + 1) := by rw [← ev61]; exact (xz_add (X := x4.toInt) (Y := 1) rfl (by decide) (by omega) (by omega)).trans (by omega)
                refine xi_iinc (pc' := 123) (x := x4) (v := v61) (lv' := [(4, .int v61), (0, .ref 115), (1, .int x1), (2, .int x2), (3, .int x3)]) kc_68_120 rfl rfl ev61 rfl (xm_lt ml_68 rfl) ?_
                refine xi_goto (pc' := 77) kc_68_123 rfl ?_
                have kqx3 := xK_is (yd := yd) (q := x3.toNatClampNeg) 24 (Nat.le_refl _) (by omega)
                have kvx3 : v22.toInt = ((xK yd x3.toNatClampNeg : Nat) : Int) := xnt (by rw [← ev22]; exact hk _ (by omega)) (by omega)
                have kcx3 := xcl kvx3
                have kqx4 := xK_is (yd := yd) (q := x4.toNatClampNeg) 24 (Nat.le_refl _) (by omega)
                have kvx4 : v23.toInt = ((xK yd x4.toNatClampNeg : Nat) : Int) := xnt (by rw [← ev23]; exact hk _ (by omega)) (by omega)
                have kcx4 := xcl kvx4
                have ff62 : (Bs.getD (Int32.toNatClampNeg x3) 0).toInt = v21.toInt := by rw [ev21]
                have ff63 : (yk.getD (Int32.toNatClampNeg x3) 0).toInt = v22.toInt := by rw [ev22]
                have ff64 : (yk.getD (Int32.toNatClampNeg x4) 0).toInt = v23.toInt := by rw [ev23]
                have ff65 : (ys.getD (Int32.toNatClampNeg v22) 0).toInt = v24.toInt := by rw [ev24]
                have ff66 : (ys.getD (Int32.toNatClampNeg v23) 0).toInt = v25.toInt := by rw [ev25]
                have ff67 : (yf.getD (Int32.toNatClampNeg v22) 0).toInt = v27.toInt := by rw [ev27]
                have ff68 : (yf.getD (Int32.toNatClampNeg v23) 0).toInt = v28.toInt := by rw [ev28]
                refine xw_lv (b := [(0, .ref 115), (1, .int x1), (2, .int x2), (3, .int x3), (4, .int v61)]) (lvS_cons (lvS_cons (lvS_cons (lvS_cons (lvS_cons (lvS_nil (show ([4, 0, 1, 2, 3] : List Nat).Nodup by decide)) rfl) rfl) rfl) rfl) rfl) ?_
                exact i1 x2 x3 v61 hh59 y59 (by omega) (by omega) hE K60 eh59.1 hy59 (xc_b0 hB s59) (xc_cn hC hBs (by omega) b3.1 b4.1 (by omega) (by omega) (by rw [← kcx3, ← kcx4]; unfold xbs; omega) ev21 ev58 s59) (by omega)
              · refine xi_ift (pc' := 64) kc_67_47 rfl (xc_ne_t (X := (v27.toInt + (-1) * v28.toInt)) (Y := 0) zv29 (by decide) (by omega)) ?_
                refine xi_iconst (pc' := 65) (v := 0) kc_67_64 rfl rfl ?_
                refine xi_ireturn kc_67_65 mr_67 rfl ?_
                show xw J ov (d + 6) 68 (107, [(0, .ref 115), (1, .int x1), (2, .int x2), (3, .int x3), (4, .int x4)], [.int 0, .int v21, .int x3, .ref 160], h) _
                refine xi_ift (pc' := 117) kc_68_107 rfl rfl ?_
                refine xi_iconst (pc' := 118) (v := 0) kc_68_117 rfl rfl ?_
                obtain ⟨v69, ev69⟩ : ∃ q : Int32, (v21 : Int32) ||| 0 = q := ⟨_, rfl⟩
                have rv69 := xc_rng v69
                refine xi_ior (pc' := 119) (v := v69) kc_68_118 rfl ev69 ?_
                obtain ⟨y70, s70, hy70, ry70⟩ := xj_set (v := v69) hBs rBs x3 (by first | omega | decide) (by first | omega | decide)
                refine xi_iastore (pc' := 120) (x' := y70) kc_68_119 rfl AB rfl (xi_in (by omega) (by rw [hBs]; omega)) s70 (fun hh70 eh70 => ?_)
                have K71 := xk_pa K (xk_wa rfl) xD_160 hy70 ry70 eh70
                obtain ⟨v72, ev72⟩ : ∃ q : Int32, x4 + 1 = q := ⟨_, rfl⟩
                have zv72 : v72.toInt = (x4.toInt + 1) := by rw [← ev72]; exact (xz_add (X := x4.toInt) (Y := 1) rfl (by decide) (by omega) (by omega)).trans (by omega)
                refine xi_iinc (pc' := 123) (x := x4) (v := v72) (lv' := [(4, .int v72), (0, .ref 115), (1, .int x1), (2, .int x2), (3, .int x3)]) kc_68_120 rfl rfl ev72 rfl (xm_lt ml_68 rfl) ?_
                refine xi_goto (pc' := 77) kc_68_123 rfl ?_
                have kqx3 := xK_is (yd := yd) (q := x3.toNatClampNeg) 24 (Nat.le_refl _) (by omega)
                have kvx3 : v22.toInt = ((xK yd x3.toNatClampNeg : Nat) : Int) := xnt (by rw [← ev22]; exact hk _ (by omega)) (by omega)
                have kcx3 := xcl kvx3
                have kqx4 := xK_is (yd := yd) (q := x4.toNatClampNeg) 24 (Nat.le_refl _) (by omega)
                have kvx4 : v23.toInt = ((xK yd x4.toNatClampNeg : Nat) : Int) := xnt (by rw [← ev23]; exact hk _ (by omega)) (by omega)
                have kcx4 := xcl kvx4
                have ff73 : (Bs.getD (Int32.toNatClampNeg x3) 0).toInt = v21.toInt := by rw [ev21]
                have ff74 : (yk.getD (Int32.toNatClampNeg x3) 0).toInt = v22.toInt := by rw [ev22]
                have ff75 : (yk.getD (Int32.toNatClampNeg x4) 0).toInt = v23.toInt := by rw [ev23]
                have ff76 : (ys.getD (Int32.toNatClampNeg v22) 0).toInt = v24.toInt := by rw [ev24]
                have ff77 : (ys.getD (Int32.toNatClampNeg v23) 0).toInt = v25.toInt := by rw [ev25]
                have ff78 : (yf.getD (Int32.toNatClampNeg v22) 0).toInt = v27.toInt := by rw [ev27]
                have ff79 : (yf.getD (Int32.toNatClampNeg v23) 0).toInt = v28.toInt := by rw [ev28]
                refine xw_lv (b := [(0, .ref 115), (1, .int x1), (2, .int x2), (3, .int x3), (4, .int v72)]) (lvS_cons (lvS_cons (lvS_cons (lvS_cons (lvS_cons (lvS_nil (show ([4, 0, 1, 2, 3] : List Nat).Nodup by decide)) rfl) rfl) rfl) rfl) rfl) ?_
                exact i1 x2 x3 v72 hh70 y70 (by omega) (by omega) hE K71 eh70.1 hy70 (xc_b0 hB s70) (xc_cn hC hBs (by omega) b3.1 b4.1 (by omega) (by omega) (by rw [← kcx3, ← kcx4]; unfold xbs; omega) ev21 ev69 s70) (by omega)
        · refine xi_ift (pc' := 45) kc_67_30 rfl (xc_ne_t (X := (v24.toInt + (-1) * v25.toInt)) (Y := 0) zv26 (by decide) (by omega)) ?_
          refine xi_iload (pc' := 47) (x := v29) kc_67_45 rfl rfl ?_
          by_cases c80 : (v27.toInt + (-1) * v28.toInt) = 0
          · refine xi_iff (pc' := 50) kc_67_47 rfl (xc_ne_f (X := (v27.toInt + (-1) * v28.toInt)) (Y := 0) zv29 (by decide) (by omega)) ?_
            refine xi_iload_n (pc' := 51) (x := v26) kc_67_50 rfl rfl ?_
            refine xi_iconst (pc' := 52) (v := 1) kc_67_51 rfl rfl ?_
            by_cases c81 : (v24.toInt + (-1) * v25.toInt) = 1
            · refine xi_cmt (pc' := 60) kc_67_52 rfl (xc_eq_t (X := (v24.toInt + (-1) * v25.toInt)) (Y := 1) zv26 (by decide) (by omega)) ?_
              refine xi_iconst (pc' := 61) (v := 1) kc_67_60 rfl rfl ?_
              refine xi_goto (pc' := 65) kc_67_61 rfl ?_
              refine xi_ireturn kc_67_65 mr_67 rfl ?_
              show xw J ov (d + 6) 68 (107, [(0, .ref 115), (1, .int x1), (2, .int x2), (3, .int x3), (4, .int x4)], [.int 1, .int v21, .int x3, .ref 160], h) _
              refine xi_iff (pc' := 110) kc_68_107 rfl rfl ?_
              refine xi_iconst (pc' := 111) (v := 1) kc_68_110 rfl rfl ?_
              refine xi_iload (pc' := 113) (x := x4) kc_68_111 rfl rfl ?_
              obtain ⟨v82, ev82⟩ : ∃ q : Int32, (1 : Int32) <<< (x4 &&& 31) = q := ⟨_, rfl⟩
              have rv82 := xc_rng v82
              refine xi_ishl (pc' := 114) (v := v82) kc_68_113 rfl ev82 ?_
              refine xi_goto (pc' := 118) kc_68_114 rfl ?_
              obtain ⟨v83, ev83⟩ : ∃ q : Int32, (v21 : Int32) ||| v82 = q := ⟨_, rfl⟩
              have rv83 := xc_rng v83
              refine xi_ior (pc' := 119) (v := v83) kc_68_118 rfl ev83 ?_
              obtain ⟨y84, s84, hy84, ry84⟩ := xj_set (v := v83) hBs rBs x3 (by first | omega | decide) (by first | omega | decide)
              refine xi_iastore (pc' := 120) (x' := y84) kc_68_119 rfl AB rfl (xi_in (by omega) (by rw [hBs]; omega)) s84 (fun hh84 eh84 => ?_)
              have K85 := xk_pa K (xk_wa rfl) xD_160 hy84 ry84 eh84
              obtain ⟨v86, ev86⟩ : ∃ q : Int32, x4 + 1 = q := ⟨_, rfl⟩
              have zv86 : v86.toInt = (x4.toInt + 1) := by rw [← ev86]; exact (xz_add (X := x4.toInt) (Y := 1) rfl (by decide) (by omega) (by omega)).trans (by omega)
              refine xi_iinc (pc' := 123) (x := x4) (v := v86) (lv' := [(4, .int v86), (0, .ref 115), (1, .int x1), (2, .int x2), (3, .int x3)]) kc_68_120 rfl rfl ev86 rfl (xm_lt ml_68 rfl) ?_
              refine xi_goto (pc' := 77) kc_68_123 rfl ?_
              have kqx3 := xK_is (yd := yd) (q := x3.toNatClampNeg) 24 (Nat.le_refl _) (by omega)
              have kvx3 : v22.toInt = ((xK yd x3.toNatClampNeg : Nat) : Int) := xnt (by rw [← ev22]; exact hk _ (by omega)) (by omega)
              have kcx3 := xcl kvx3
              have kqx4 := xK_is (yd := yd) (q := x4.toNatClampNeg) 24 (Nat.le_refl _) (by omega)
              have kvx4 : v23.toInt = ((xK yd x4.toNatClampNeg : Nat) : Int) := xnt (by rw [← ev23]; exact hk _ (by omega)) (by omega)
              have kcx4 := xcl kvx4
              have ff87 : (Bs.getD (Int32.toNatClampNeg x3) 0).toInt = v21.toInt := by rw [ev21]
              have ff88 : (yk.getD (Int32.toNatClampNeg x3) 0).toInt = v22.toInt := by rw [ev22]
              have ff89 : (yk.getD (Int32.toNatClampNeg x4) 0).toInt = v23.toInt := by rw [ev23]
              have ff90 : (ys.getD (Int32.toNatClampNeg v22) 0).toInt = v24.toInt := by rw [ev24]
              have ff91 : (ys.getD (Int32.toNatClampNeg v23) 0).toInt = v25.toInt := by rw [ev25]
              have ff92 : (yf.getD (Int32.toNatClampNeg v22) 0).toInt = v27.toInt := by rw [ev27]
              have ff93 : (yf.getD (Int32.toNatClampNeg v23) 0).toInt = v28.toInt := by rw [ev28]
              refine xw_lv (b := [(0, .ref 115), (1, .int x1), (2, .int x2), (3, .int x3), (4, .int v86)]) (lvS_cons (lvS_cons (lvS_cons (lvS_cons (lvS_cons (lvS_nil (show ([4, 0, 1, 2, 3] : List Nat).Nodup by decide)) rfl) rfl) rfl) rfl) rfl) ?_
              exact i1 x2 x3 v86 hh84 y84 (by omega) (by omega) hE K85 eh84.1 hy84 (xc_b0 hB s84) (xc_cy hC hBs (by omega) b3.1 b4.1 (by omega) (by omega) (by rw [← kcx3, ← kcx4]; unfold xbs; omega) ev82 ev21 ev83 s84) (by omega)
            · refine xi_cmf (pc' := 55) kc_67_52 rfl (xc_eq_f (X := (v24.toInt + (-1) * v25.toInt)) (Y := 1) zv26 (by decide) (by omega)) ?_
              refine xi_iload_n (pc' := 56) (x := v26) kc_67_55 rfl rfl ?_
              refine xi_iconst (pc' := 57) (v := (-1)) kc_67_56 rfl rfl ?_
              by_cases c94 : (v24.toInt + (-1) * v25.toInt) = (-1)
              · refine xi_cmf (pc' := 60) kc_67_57 rfl (xc_ne_f (X := (v24.toInt + (-1) * v25.toInt)) (Y := (-1)) zv26 (by decide) (by omega)) ?_
                refine xi_iconst (pc' := 61) (v := 1) kc_67_60 rfl rfl ?_
                refine xi_goto (pc' := 65) kc_67_61 rfl ?_
                refine xi_ireturn kc_67_65 mr_67 rfl ?_
                show xw J ov (d + 6) 68 (107, [(0, .ref 115), (1, .int x1), (2, .int x2), (3, .int x3), (4, .int x4)], [.int 1, .int v21, .int x3, .ref 160], h) _
                refine xi_iff (pc' := 110) kc_68_107 rfl rfl ?_
                refine xi_iconst (pc' := 111) (v := 1) kc_68_110 rfl rfl ?_
                refine xi_iload (pc' := 113) (x := x4) kc_68_111 rfl rfl ?_
                obtain ⟨v95, ev95⟩ : ∃ q : Int32, (1 : Int32) <<< (x4 &&& 31) = q := ⟨_, rfl⟩
                have rv95 := xc_rng v95
                refine xi_ishl (pc' := 114) (v := v95) kc_68_113 rfl ev95 ?_
                refine xi_goto (pc' := 118) kc_68_114 rfl ?_
                obtain ⟨v96, ev96⟩ : ∃ q : Int32, (v21 : Int32) ||| v95 = q := ⟨_, rfl⟩
                have rv96 := xc_rng v96
                refine xi_ior (pc' := 119) (v := v96) kc_68_118 rfl ev96 ?_
                obtain ⟨y97, s97, hy97, ry97⟩ := xj_set (v := v96) hBs rBs x3 (by first | omega | decide) (by first | omega | decide)
                refine xi_iastore (pc' := 120) (x' := y97) kc_68_119 rfl AB rfl (xi_in (by omega) (by rw [hBs]; omega)) s97 (fun hh97 eh97 => ?_)
                have K98 := xk_pa K (xk_wa rfl) xD_160 hy97 ry97 eh97
                obtain ⟨v99, ev99⟩ : ∃ q : Int32, x4 + 1 = q := ⟨_, rfl⟩
                have zv99 : v99.toInt = (x4.toInt + 1) := by rw [← ev99]; exact (xz_add (X := x4.toInt) (Y := 1) rfl (by decide) (by omega) (by omega)).trans (by omega)
                refine xi_iinc (pc' := 123) (x := x4) (v := v99) (lv' := [(4, .int v99), (0, .ref 115), (1, .int x1), (2, .int x2), (3, .int x3)]) kc_68_120 rfl rfl ev99 rfl (xm_lt ml_68 rfl) ?_
                refine xi_goto (pc' := 77) kc_68_123 rfl ?_
                have kqx3 := xK_is (yd := yd) (q := x3.toNatClampNeg) 24 (Nat.le_refl _) (by omega)
                have kvx3 : v22.toInt = ((xK yd x3.toNatClampNeg : Nat) : Int) := xnt (by rw [← ev22]; exact hk _ (by omega)) (by omega)
                have kcx3 := xcl kvx3
                have kqx4 := xK_is (yd := yd) (q := x4.toNatClampNeg) 24 (Nat.le_refl _) (by omega)
                have kvx4 : v23.toInt = ((xK yd x4.toNatClampNeg : Nat) : Int) := xnt (by rw [← ev23]; exact hk _ (by omega)) (by omega)
                have kcx4 := xcl kvx4
                have ff100 : (Bs.getD (Int32.toNatClampNeg x3) 0).toInt = v21.toInt := by rw [ev21]
                have ff101 : (yk.getD (Int32.toNatClampNeg x3) 0).toInt = v22.toInt := by rw [ev22]
                have ff102 : (yk.getD (Int32.toNatClampNeg x4) 0).toInt = v23.toInt := by rw [ev23]
                have ff103 : (ys.getD (Int32.toNatClampNeg v22) 0).toInt = v24.toInt := by rw [ev24]
                have ff104 : (ys.getD (Int32.toNatClampNeg v23) 0).toInt = v25.toInt := by rw [ev25]
                have ff105 : (yf.getD (Int32.toNatClampNeg v22) 0).toInt = v27.toInt := by rw [ev27]
                have ff106 : (yf.getD (Int32.toNatClampNeg v23) 0).toInt = v28.toInt := by rw [ev28]
                refine xw_lv (b := [(0, .ref 115), (1, .int x1), (2, .int x2), (3, .int x3), (4, .int v99)]) (lvS_cons (lvS_cons (lvS_cons (lvS_cons (lvS_cons (lvS_nil (show ([4, 0, 1, 2, 3] : List Nat).Nodup by decide)) rfl) rfl) rfl) rfl) rfl) ?_
                exact i1 x2 x3 v99 hh97 y97 (by omega) (by omega) hE K98 eh97.1 hy97 (xc_b0 hB s97) (xc_cy hC hBs (by omega) b3.1 b4.1 (by omega) (by omega) (by rw [← kcx3, ← kcx4]; unfold xbs; omega) ev95 ev21 ev96 s97) (by omega)
              · refine xi_cmt (pc' := 64) kc_67_57 rfl (xc_ne_t (X := (v24.toInt + (-1) * v25.toInt)) (Y := (-1)) zv26 (by decide) (by omega)) ?_
                refine xi_iconst (pc' := 65) (v := 0) kc_67_64 rfl rfl ?_
                refine xi_ireturn kc_67_65 mr_67 rfl ?_
                show xw J ov (d + 6) 68 (107, [(0, .ref 115), (1, .int x1), (2, .int x2), (3, .int x3), (4, .int x4)], [.int 0, .int v21, .int x3, .ref 160], h) _
                refine xi_ift (pc' := 117) kc_68_107 rfl rfl ?_
                refine xi_iconst (pc' := 118) (v := 0) kc_68_117 rfl rfl ?_
                obtain ⟨v107, ev107⟩ : ∃ q : Int32, (v21 : Int32) ||| 0 = q := ⟨_, rfl⟩
                have rv107 := xc_rng v107
                refine xi_ior (pc' := 119) (v := v107) kc_68_118 rfl ev107 ?_
                obtain ⟨y108, s108, hy108, ry108⟩ := xj_set (v := v107) hBs rBs x3 (by first | omega | decide) (by first | omega | decide)
                refine xi_iastore (pc' := 120) (x' := y108) kc_68_119 rfl AB rfl (xi_in (by omega) (by rw [hBs]; omega)) s108 (fun hh108 eh108 => ?_)
                have K109 := xk_pa K (xk_wa rfl) xD_160 hy108 ry108 eh108
                obtain ⟨v110, ev110⟩ : ∃ q : Int32, x4 + 1 = q := ⟨_, rfl⟩
                have zv110 : v110.toInt = (x4.toInt + 1) := by rw [← ev110]; exact (xz_add (X := x4.toInt) (Y := 1) rfl (by decide) (by omega) (by omega)).trans (by omega)
                refine xi_iinc (pc' := 123) (x := x4) (v := v110) (lv' := [(4, .int v110), (0, .ref 115), (1, .int x1), (2, .int x2), (3, .int x3)]) kc_68_120 rfl rfl ev110 rfl (xm_lt ml_68 rfl) ?_
                refine xi_goto (pc' := 77) kc_68_123 rfl ?_
                have kqx3 := xK_is (yd := yd) (q := x3.toNatClampNeg) 24 (Nat.le_refl _) (by omega)
                have kvx3 : v22.toInt = ((xK yd x3.toNatClampNeg : Nat) : Int) := xnt (by rw [← ev22]; exact hk _ (by omega)) (by omega)
                have kcx3 := xcl kvx3
                have kqx4 := xK_is (yd := yd) (q := x4.toNatClampNeg) 24 (Nat.le_refl _) (by omega)
                have kvx4 : v23.toInt = ((xK yd x4.toNatClampNeg : Nat) : Int) := xnt (by rw [← ev23]; exact hk _ (by omega)) (by omega)
                have kcx4 := xcl kvx4
                have ff111 : (Bs.getD (Int32.toNatClampNeg x3) 0).toInt = v21.toInt := by rw [ev21]
                have ff112 : (yk.getD (Int32.toNatClampNeg x3) 0).toInt = v22.toInt := by rw [ev22]
                have ff113 : (yk.getD (Int32.toNatClampNeg x4) 0).toInt = v23.toInt := by rw [ev23]
                have ff114 : (ys.getD (Int32.toNatClampNeg v22) 0).toInt = v24.toInt := by rw [ev24]
                have ff115 : (ys.getD (Int32.toNatClampNeg v23) 0).toInt = v25.toInt := by rw [ev25]
                have ff116 : (yf.getD (Int32.toNatClampNeg v22) 0).toInt = v27.toInt := by rw [ev27]
                have ff117 : (yf.getD (Int32.toNatClampNeg v23) 0).toInt = v28.toInt := by rw [ev28]
                refine xw_lv (b := [(0, .ref 115), (1, .int x1), (2, .int x2), (3, .int x3), (4, .int v110)]) (lvS_cons (lvS_cons (lvS_cons (lvS_cons (lvS_cons (lvS_nil (show ([4, 0, 1, 2, 3] : List Nat).Nodup by decide)) rfl) rfl) rfl) rfl) rfl) ?_
                exact i1 x2 x3 v110 hh108 y108 (by omega) (by omega) hE K109 eh108.1 hy108 (xc_b0 hB s108) (xc_cn hC hBs (by omega) b3.1 b4.1 (by omega) (by omega) (by rw [← kcx3, ← kcx4]; unfold xbs; omega) ev21 ev107 s108) (by omega)
          · refine xi_ift (pc' := 64) kc_67_47 rfl (xc_ne_t (X := (v27.toInt + (-1) * v28.toInt)) (Y := 0) zv29 (by decide) (by omega)) ?_
            refine xi_iconst (pc' := 65) (v := 0) kc_67_64 rfl rfl ?_
            refine xi_ireturn kc_67_65 mr_67 rfl ?_
            show xw J ov (d + 6) 68 (107, [(0, .ref 115), (1, .int x1), (2, .int x2), (3, .int x3), (4, .int x4)], [.int 0, .int v21, .int x3, .ref 160], h) _
            refine xi_ift (pc' := 117) kc_68_107 rfl rfl ?_
            refine xi_iconst (pc' := 118) (v := 0) kc_68_117 rfl rfl ?_
            obtain ⟨v118, ev118⟩ : ∃ q : Int32, (v21 : Int32) ||| 0 = q := ⟨_, rfl⟩
            have rv118 := xc_rng v118
            refine xi_ior (pc' := 119) (v := v118) kc_68_118 rfl ev118 ?_
            obtain ⟨y119, s119, hy119, ry119⟩ := xj_set (v := v118) hBs rBs x3 (by first | omega | decide) (by first | omega | decide)
            refine xi_iastore (pc' := 120) (x' := y119) kc_68_119 rfl AB rfl (xi_in (by omega) (by rw [hBs]; omega)) s119 (fun hh119 eh119 => ?_)
            have K120 := xk_pa K (xk_wa rfl) xD_160 hy119 ry119 eh119
            obtain ⟨v121, ev121⟩ : ∃ q : Int32, x4 + 1 = q := ⟨_, rfl⟩
            have zv121 : v121.toInt = (x4.toInt + 1) := by rw [← ev121]; exact (xz_add (X := x4.toInt) (Y := 1) rfl (by decide) (by omega) (by omega)).trans (by omega)
            refine xi_iinc (pc' := 123) (x := x4) (v := v121) (lv' := [(4, .int v121), (0, .ref 115), (1, .int x1), (2, .int x2), (3, .int x3)]) kc_68_120 rfl rfl ev121 rfl (xm_lt ml_68 rfl) ?_
            refine xi_goto (pc' := 77) kc_68_123 rfl ?_
            have kqx3 := xK_is (yd := yd) (q := x3.toNatClampNeg) 24 (Nat.le_refl _) (by omega)
            have kvx3 : v22.toInt = ((xK yd x3.toNatClampNeg : Nat) : Int) := xnt (by rw [← ev22]; exact hk _ (by omega)) (by omega)
            have kcx3 := xcl kvx3
            have kqx4 := xK_is (yd := yd) (q := x4.toNatClampNeg) 24 (Nat.le_refl _) (by omega)
            have kvx4 : v23.toInt = ((xK yd x4.toNatClampNeg : Nat) : Int) := xnt (by rw [← ev23]; exact hk _ (by omega)) (by omega)
            have kcx4 := xcl kvx4
            have ff122 : (Bs.getD (Int32.toNatClampNeg x3) 0).toInt = v21.toInt := by rw [ev21]
            have ff123 : (yk.getD (Int32.toNatClampNeg x3) 0).toInt = v22.toInt := by rw [ev22]
            have ff124 : (yk.getD (Int32.toNatClampNeg x4) 0).toInt = v23.toInt := by rw [ev23]
            have ff125 : (ys.getD (Int32.toNatClampNeg v22) 0).toInt = v24.toInt := by rw [ev24]
            have ff126 : (ys.getD (Int32.toNatClampNeg v23) 0).toInt = v25.toInt := by rw [ev25]
            have ff127 : (yf.getD (Int32.toNatClampNeg v22) 0).toInt = v27.toInt := by rw [ev27]
            have ff128 : (yf.getD (Int32.toNatClampNeg v23) 0).toInt = v28.toInt := by rw [ev28]
            refine xw_lv (b := [(0, .ref 115), (1, .int x1), (2, .int x2), (3, .int x3), (4, .int v121)]) (lvS_cons (lvS_cons (lvS_cons (lvS_cons (lvS_cons (lvS_nil (show ([4, 0, 1, 2, 3] : List Nat).Nodup by decide)) rfl) rfl) rfl) rfl) rfl) ?_
            exact i1 x2 x3 v121 hh119 y119 (by omega) (by omega) hE K120 eh119.1 hy119 (xc_b0 hB s119) (xc_cn hC hBs (by omega) b3.1 b4.1 (by omega) (by omega) (by rw [← kcx3, ← kcx4]; unfold xbs; omega) ev21 ev118 s119) (by omega)
set_option maxHeartbeats 8000000 in
theorem cc_lp {J : xe_J} {ov : List (List Int32)} (hJ : ∀ d mj as h, mj ≠ xe_loff → J d mj as h = none) (hov1 : ov[1]? = some [10, 0, 0, 0, 0, 0]) (hov2 : ov[2]? = some [99, 30, 50, 50, 1, 99999]) {d : Nat} {Q : Option Value → xe_H → Prop} {h : xe_H} (T : xt h) {n N k : Nat} {b : Nat → Nat} (hn : n ≤ 16) (eN : 2 ^ n = N) {xn : Int32} (F54 : xl h (115, 54) = some (.inl (.int xn))) (exn : xn = nI n) {Bs : List Int32} (AB : h[160]? = some (.inl (0, .inl Bs))) (hBs : Bs.length = 24) (hB : ∀ q, q < n → Bs.getD q 0 = nI (b q)) (hb : ∀ q, q < n → b q < 2 ^ q) {x1 x2 x3 : Int32} (b1 : 0 ≤ x1.toInt ∧ x1.toInt ≤ 1) (e2 : x2.toInt = (k : Int)) (b3 : 0 ≤ x3.toInt ∧ x3.toInt ≤ 1000) (kk : ∀ v : Int32, (x1.toInt = 0 → v = nI (xcn (fun T => xon 16 T = k ∧ x3.toInt ≤ (xhj b n 0 T : Int)) N)) → (x1.toInt ≠ 0 → v = nI (xcn (fun T => xon 16 T = k) N)) → Q (some (.int v)) h) : ∀ m : Nat, (∀ (t : Nat) (x4 x5 x6 : Int32), x6.toInt = (t : Int) → t ≤ N → x4 = nI (xcn (fun T => xon 16 T = k ∧ x3.toInt ≤ (xhj b n 0 T : Int)) t) → x5 = nI (xcn (fun T => xon 16 T = k) t) → 40 * ((N : Int) - (t : Int)) + 20 < (m : Int) → xw J ov (d + 3) 68 (146, [(0, .ref 115), (1, .int x1), (2, .int x2), (3, .int x3), (4, .int x4), (5, .int x5), (6, .int x6)], [], h) Q) ∧ (∀ (t i s : Nat) (x4 x5 x6 x7 x8 : Int32), x6.toInt = (t : Int) → t < N → x4 = nI (xcn (fun T => xon 16 T = k ∧ x3.toInt ≤ (xhj b n 0 T : Int)) t) → x5 = nI (xcn (fun T => xon 16 T = k) t) → xon 16 t = k → x8.toInt = (i : Int) → i ≤ n → x7 = nI s → s + xhj b (n - i) i t = xhj b n 0 t → 40 * ((N : Int) - (t : Int)) + (n : Int) - (i : Int) < (m : Int) → xw J ov (d + 3) 68 (172, [(0, .ref 115), (1, .int x1), (2, .int x2), (3, .int x3), (4, .int x4), (5, .int x5), (6, .int x6), (7, .int x7), (8, .int x8)], [], h) Q) := by
  intro m
  induction m with
  | zero =>
    refine ⟨?_, ?_⟩
    · intro t x4 x5 x6 e6 lt E4 E5 hm; exfalso; omega
    · intro t i s x4 x5 x6 x7 x8 e6 lt E4 E5 ek e8 li E7 eS hm; exfalso; omega
  | succ m ih =>
    obtain ⟨i0, i1⟩ := ih
    refine ⟨?_, ?_⟩
    · intro t x4 x5 x6 e6 lt E4 E5 hm
      have K : xk [] h h := xk_re T
      have rx4 := xc_rng x4
      have rx5 := xc_rng x5
      have lN : N ≤ 65536 := by rw [← eN]; exact xp16 hn
      have rBs : ∀ i, i < 24 → (-2147483648) ≤ (Bs.getD i 0).toInt ∧ (Bs.getD i 0).toInt ≤ 2147483647 := fun i _ => ⟨(xc_rng _).1, by have := (xc_rng (Bs.getD i 0)).2; omega⟩
      have hok := xon_le 16 t
      obtain ⟨u1, u2, u3, u4, u5, u6, u7, u8, u9, u10, u11, u12, u13, bu1, bu2, bu3, bu4, bu5, bu6, bu7, bu8, bu9, bu10, bu11, bu12, bu13, A14⟩ := xq_115 K.1
      have eu : u11 = xn := xl_val A14 rfl F54
      subst eu
      have zn := xnt exn (by omega)
      refine xi_iload (pc' := 148) (x := x6) kc_68_146 rfl rfl ?_
      refine xi_iconst (pc' := 149) (v := 1) kc_68_148 rfl rfl ?_
      refine xi_aload_n (pc' := 150) (x := 115) kc_68_149 rfl rfl ?_
      refine xi_getfield (pc' := 153) (v := .int u11) kc_68_150 rfl rfl rfl A14 rfl ?_
      obtain ⟨v15, ev15⟩ : ∃ q : Int32, (1 : Int32) <<< (u11 &&& 31) = q := ⟨_, rfl⟩
      have rv15 := xc_rng v15
      refine xi_ishl (pc' := 154) (v := v15) kc_68_153 rfl ev15 ?_
      by_cases c16 : v15.toInt ≤ x6.toInt
      · refine xi_cmt (pc' := 245) kc_68_154 rfl (xc_ge_t (X := x6.toInt) (Y := v15.toInt) rfl rfl (by omega)) ?_
        refine xi_iload_n (pc' := 246) (x := x1) kc_68_245 rfl rfl ?_
        by_cases c17 : x1.toInt = 0
        · refine xi_iff (pc' := 249) kc_68_246 rfl (xc_ne_f (X := x1.toInt) (Y := 0) rfl (by decide) (by omega)) ?_
          refine xi_iload (pc' := 251) (x := x4) kc_68_249 rfl rfl ?_
          refine xi_goto (pc' := 256) kc_68_251 rfl ?_
          refine xi_ireturn kc_68_256 mr_68 rfl ?_
          have zN : v15.toInt = (N : Int) := xnt (by rw [← eN]; exact xn_shl zn hn ev15) (by omega)
          have etN : t = N := by omega
          subst etN
          exact kk x4 (fun _ => E4) (fun h => absurd (by omega) h)
        · refine xi_ift (pc' := 254) kc_68_246 rfl (xc_ne_t (X := x1.toInt) (Y := 0) rfl (by decide) (by omega)) ?_
          refine xi_iload (pc' := 256) (x := x5) kc_68_254 rfl rfl ?_
          refine xi_ireturn kc_68_256 mr_68 rfl ?_
          have zN : v15.toInt = (N : Int) := xnt (by rw [← eN]; exact xn_shl zn hn ev15) (by omega)
          have etN : t = N := by omega
          subst etN
          exact kk x5 (fun h => absurd h (by omega)) (fun _ => E5)
      · refine xi_cmf (pc' := 157) kc_68_154 rfl (xc_ge_f (X := x6.toInt) (Y := v15.toInt) rfl rfl (by omega)) ?_
        refine xi_iload (pc' := 159) (x := x6) kc_68_157 rfl rfl ?_
        refine xi_static (mj := 49) (as := [.int x6]) (st1 := []) (lv0 := [(0, .int x6)]) kc_68_159 rfl rfl (Nat.le_of_ble_eq_true rfl) rfl rfl (Nat.le_of_ble_eq_true rfl) (hJ _ _ _ _ (by decide)) (xm_le ml_49 rfl) rfl ?_
        have zN : v15.toInt = (N : Int) := xnt (by rw [← eN]; exact xn_shl zn hn ev15) (by omega)
        have hw : x6 = nI t := xnI e6
        have lw : t < 65536 := by omega
        obtain ⟨r18, er18⟩ : ∃ q : Int32, nI (xon 16 t) = q := ⟨_, rfl⟩
        have or18 := xon_le 16 t
        have zr18 : r18.toInt = ((xon 16 t : Nat) : Int) := xnt er18.symm (by omega)
        refine xw_ones hw lw er18 ?_
        show xw J ov (d + 3) 68 (162, [(0, .ref 115), (1, .int x1), (2, .int x2), (3, .int x3), (4, .int x4), (5, .int x5), (6, .int x6)], [.int r18], h) _
        refine xi_iload_n (pc' := 163) (x := x2) kc_68_162 rfl rfl ?_
        by_cases c19 : r18.toInt = x2.toInt
        · refine xi_cmf (pc' := 166) kc_68_163 rfl (xc_ne_f (X := r18.toInt) (Y := x2.toInt) rfl rfl (by omega)) ?_
          refine xi_iconst (pc' := 167) (v := 0) kc_68_166 rfl rfl ?_
          refine xi_istore (pc' := 169) (lv' := [(7, .int 0), (0, .ref 115), (1, .int x1), (2, .int x2), (3, .int x3), (4, .int x4), (5, .int x5), (6, .int x6)]) kc_68_167 rfl rfl (xm_lt ml_68 rfl) ?_
          refine xi_iconst (pc' := 170) (v := 0) kc_68_169 rfl rfl ?_
          refine xi_istore (pc' := 172) (lv' := [(8, .int 0), (7, .int 0), (0, .ref 115), (1, .int x1), (2, .int x2), (3, .int x3), (4, .int x4), (5, .int x5), (6, .int x6)]) kc_68_170 rfl rfl (xm_lt ml_68 rfl) ?_
          refine xw_lv (b := [(0, .ref 115), (1, .int x1), (2, .int x2), (3, .int x3), (4, .int x4), (5, .int x5), (6, .int x6), (7, .int 0), (8, .int 0)]) (lvS_cons (lvS_cons (lvS_cons (lvS_cons (lvS_cons (lvS_cons (lvS_cons (lvS_cons (lvS_cons (lvS_nil (show ([8, 7, 0, 1, 2, 3, 4, 5, 6] : List Nat).Nodup by decide)) rfl) rfl) rfl) rfl) rfl) rfl) rfl) rfl) rfl) ?_
          have zc0 : (0 : Int32).toInt = 0 := by decide
          exact i1 t 0 0 x4 x5 x6 0 0 e6 (by omega) E4 E5 (by omega) (by omega) (by omega) rfl (Nat.zero_add _) (by omega)
        · refine xi_cmt (pc' := 239) kc_68_163 rfl (xc_ne_t (X := r18.toInt) (Y := x2.toInt) rfl rfl (by omega)) ?_
          obtain ⟨v20, ev20⟩ : ∃ q : Int32, x6 + 1 = q := ⟨_, rfl⟩
          have zv20 : v20.toInt = (x6.toInt + 1) := by rw [← ev20]; exact (xz_add (X := x6.toInt) (Y := 1) rfl (by decide) (by omega) (by omega)).trans (by omega)
          refine xi_iinc (pc' := 242) (x := x6) (v := v20) (lv' := [(6, .int v20), (0, .ref 115), (1, .int x1), (2, .int x2), (3, .int x3), (4, .int x4), (5, .int x5)]) kc_68_239 rfl rfl ev20 rfl (xm_lt ml_68 rfl) ?_
          refine xi_goto (pc' := 146) kc_68_242 rfl ?_
          refine xw_lv (b := [(0, .ref 115), (1, .int x1), (2, .int x2), (3, .int x3), (4, .int x4), (5, .int x5), (6, .int v20)]) (lvS_cons (lvS_cons (lvS_cons (lvS_cons (lvS_cons (lvS_cons (lvS_cons (lvS_nil (show ([6, 0, 1, 2, 3, 4, 5] : List Nat).Nodup by decide)) rfl) rfl) rfl) rfl) rfl) rfl) rfl) ?_
          exact i0 (t + 1) x4 x5 v20 (by omega) (by omega) (by rw [xcn_no (P := (fun T => xon 16 T = k ∧ x3.toInt ≤ (xhj b n 0 T : Int))) (n := t) (fun z => absurd z.1 (by omega))]; exact E4) (by rw [xcn_no (P := (fun T => xon 16 T = k)) (n := t) (fun z => absurd z (by omega))]; exact E5) (by omega)
    · intro t i s x4 x5 x6 x7 x8 e6 lt E4 E5 ek e8 li E7 eS hm
      have K : xk [] h h := xk_re T
      have rx4 := xc_rng x4
      have rx5 := xc_rng x5
      have lN : N ≤ 65536 := by rw [← eN]; exact xp16 hn
      have rBs : ∀ i, i < 24 → (-2147483648) ≤ (Bs.getD i 0).toInt ∧ (Bs.getD i 0).toInt ≤ 2147483647 := fun i _ => ⟨(xc_rng _).1, by have := (xc_rng (Bs.getD i 0)).2; omega⟩
      have hh1 := xhj_le (b := b) (T := t) n 0
      have z7 := xnt E7 (by omega)
      have hok := xon_le 16 t
      obtain ⟨u1, u2, u3, u4, u5, u6, u7, u8, u9, u10, u11, u12, u13, bu1, bu2, bu3, bu4, bu5, bu6, bu7, bu8, bu9, bu10, bu11, bu12, bu13, A14⟩ := xq_115 K.1
      have eu : u11 = xn := xl_val A14 rfl F54
      subst eu
      have zn := xnt exn (by omega)
      refine xi_iload (pc' := 174) (x := x8) kc_68_172 rfl rfl ?_
      refine xi_aload_n (pc' := 175) (x := 115) kc_68_174 rfl rfl ?_
      refine xi_getfield (pc' := 178) (v := .int u11) kc_68_175 rfl rfl rfl A14 rfl ?_
      by_cases c15 : u11.toInt ≤ x8.toInt
      · refine xi_cmt (pc' := 220) kc_68_178 rfl (xc_ge_t (X := x8.toInt) (Y := u11.toInt) rfl rfl (by omega)) ?_
        obtain ⟨v16, ev16⟩ : ∃ q : Int32, (x5 : Int32) + 1 = q := ⟨_, rfl⟩
        have rv16 := xc_rng v16
        refine xi_iinc (pc' := 223) (x := x5) (v := v16) (lv' := [(5, .int v16), (0, .ref 115), (1, .int x1), (2, .int x2), (3, .int x3), (4, .int x4), (6, .int x6), (7, .int x7), (8, .int x8)]) kc_68_220 rfl rfl ev16 rfl (xm_lt ml_68 rfl) ?_
        refine xi_iload (pc' := 225) (x := x4) kc_68_223 rfl rfl ?_
        refine xi_iload (pc' := 227) (x := x7) kc_68_225 rfl rfl ?_
        refine xi_iload_n (pc' := 228) (x := x3) kc_68_227 rfl rfl ?_
        by_cases c17 : x7.toInt < x3.toInt
        · refine xi_cmt (pc' := 235) kc_68_228 rfl (xc_lt_t (X := x7.toInt) (Y := x3.toInt) rfl rfl (by omega)) ?_
          refine xi_iconst (pc' := 236) (v := 0) kc_68_235 rfl rfl ?_
          obtain ⟨v18, ev18⟩ : ∃ q : Int32, x4 + 0 = q := ⟨_, rfl⟩
          have zv18 : v18.toInt = x4.toInt := by rw [← ev18]; exact (xz_add (X := x4.toInt) (Y := 0) rfl (by decide) (by omega) (by omega)).trans (by omega)
          refine xi_iadd (pc' := 237) (v := v18) kc_68_236 rfl ev18 ?_
          refine xi_istore (pc' := 239) (lv' := [(4, .int v18), (5, .int v16), (0, .ref 115), (1, .int x1), (2, .int x2), (3, .int x3), (6, .int x6), (7, .int x7), (8, .int x8)]) kc_68_237 rfl rfl (xm_lt ml_68 rfl) ?_
          obtain ⟨v19, ev19⟩ : ∃ q : Int32, x6 + 1 = q := ⟨_, rfl⟩
          have zv19 : v19.toInt = (x6.toInt + 1) := by rw [← ev19]; exact (xz_add (X := x6.toInt) (Y := 1) rfl (by decide) (by omega) (by omega)).trans (by omega)
          refine xi_iinc (pc' := 242) (x := x6) (v := v19) (lv' := [(6, .int v19), (4, .int v18), (5, .int v16), (0, .ref 115), (1, .int x1), (2, .int x2), (3, .int x3), (7, .int x7), (8, .int x8)]) kc_68_239 rfl rfl ev19 rfl (xm_lt ml_68 rfl) ?_
          refine xi_goto (pc' := 146) kc_68_242 rfl ?_
          refine xw_lv (b := [(0, .ref 115), (1, .int x1), (2, .int x2), (3, .int x3), (4, .int v18), (5, .int v16), (6, .int v19)]) (lvS_cons (lvS_cons (lvS_cons (lvS_cons (lvS_cons (lvS_cons (lvS_cons (lvS_nil (show ([6, 4, 5, 0, 1, 2, 3, 7, 8] : List Nat).Nodup by decide)) rfl) rfl) rfl) rfl) rfl) rfl) rfl) ?_
          have hin : n - i = 0 := by omega
          rw [hin] at eS
          have eS2 : s = xhj b n 0 t := eS
          exact i0 (t + 1) v18 v16 v19 (by omega) (by omega) (by rw [xcn_no (P := (fun T => xon 16 T = k ∧ x3.toInt ≤ (xhj b n 0 T : Int))) (n := t) (fun z => absurd z.2 (by omega))]; exact xnI_s0 E4 ev18) (by rw [xcn_yes (P := (fun T => xon 16 T = k)) (n := t) ek]; exact xnI_s1 E5 ev16) (by omega)
        · refine xi_cmf (pc' := 231) kc_68_228 rfl (xc_lt_f (X := x7.toInt) (Y := x3.toInt) rfl rfl (by omega)) ?_
          refine xi_iconst (pc' := 232) (v := 1) kc_68_231 rfl rfl ?_
          refine xi_goto (pc' := 236) kc_68_232 rfl ?_
          obtain ⟨v20, ev20⟩ : ∃ q : Int32, (x4 : Int32) + 1 = q := ⟨_, rfl⟩
          have rv20 := xc_rng v20
          refine xi_iadd (pc' := 237) (v := v20) kc_68_236 rfl ev20 ?_
          refine xi_istore (pc' := 239) (lv' := [(4, .int v20), (5, .int v16), (0, .ref 115), (1, .int x1), (2, .int x2), (3, .int x3), (6, .int x6), (7, .int x7), (8, .int x8)]) kc_68_237 rfl rfl (xm_lt ml_68 rfl) ?_
          obtain ⟨v21, ev21⟩ : ∃ q : Int32, x6 + 1 = q := ⟨_, rfl⟩
          have zv21 : v21.toInt = (x6.toInt + 1) := by rw [← ev21]; exact (xz_add (X := x6.toInt) (Y := 1) rfl (by decide) (by omega) (by omega)).trans (by omega)
          refine xi_iinc (pc' := 242) (x := x6) (v := v21) (lv' := [(6, .int v21), (4, .int v20), (5, .int v16), (0, .ref 115), (1, .int x1), (2, .int x2), (3, .int x3), (7, .int x7), (8, .int x8)]) kc_68_239 rfl rfl ev21 rfl (xm_lt ml_68 rfl) ?_
          refine xi_goto (pc' := 146) kc_68_242 rfl ?_
          refine xw_lv (b := [(0, .ref 115), (1, .int x1), (2, .int x2), (3, .int x3), (4, .int v20), (5, .int v16), (6, .int v21)]) (lvS_cons (lvS_cons (lvS_cons (lvS_cons (lvS_cons (lvS_cons (lvS_cons (lvS_nil (show ([6, 4, 5, 0, 1, 2, 3, 7, 8] : List Nat).Nodup by decide)) rfl) rfl) rfl) rfl) rfl) rfl) rfl) ?_
          have hin : n - i = 0 := by omega
          rw [hin] at eS
          have eS2 : s = xhj b n 0 t := eS
          exact i0 (t + 1) v20 v16 v21 (by omega) (by omega) (by rw [xcn_yes (P := (fun T => xon 16 T = k ∧ x3.toInt ≤ (xhj b n 0 T : Int))) (n := t) ⟨ek, by omega⟩]; exact xnI_s1 E4 ev20) (by rw [xcn_yes (P := (fun T => xon 16 T = k)) (n := t) ek]; exact xnI_s1 E5 ev16) (by omega)
      · refine xi_cmf (pc' := 181) kc_68_178 rfl (xc_ge_f (X := x8.toInt) (Y := u11.toInt) rfl rfl (by omega)) ?_
        refine xi_iload (pc' := 183) (x := x7) kc_68_181 rfl rfl ?_
        refine xi_iload (pc' := 185) (x := x6) kc_68_183 rfl rfl ?_
        refine xi_iload (pc' := 187) (x := x8) kc_68_185 rfl rfl ?_
        obtain ⟨v22, ev22⟩ : ∃ q : Int32, (x6 : Int32) >>> (x8 &&& 31) = q := ⟨_, rfl⟩
        have rv22 := xc_rng v22
        refine xi_ishr (pc' := 188) (v := v22) kc_68_187 rfl ev22 ?_
        refine xi_iconst (pc' := 189) (v := 1) kc_68_188 rfl rfl ?_
        obtain ⟨v23, ev23⟩ : ∃ q : Int32, (v22 : Int32) &&& 1 = q := ⟨_, rfl⟩
        have rv23 := xc_rng v23
        refine xi_iand (pc' := 190) (v := v23) kc_68_189 rfl ev23 ?_
        refine xi_iconst (pc' := 191) (v := 1) kc_68_190 rfl rfl ?_
        by_cases c24 : v23.toInt = 1
        · refine xi_cmf (pc' := 194) kc_68_191 rfl (xc_ne_f (X := v23.toInt) (Y := 1) rfl (by decide) (by omega)) ?_
          refine xi_aload_n (pc' := 195) (x := 115) kc_68_194 rfl rfl ?_
          refine xi_getfield (pc' := 198) (v := .ref 160) kc_68_195 rfl rfl rfl A14 rfl ?_
          refine xi_iload (pc' := 200) (x := x8) kc_68_198 rfl rfl ?_
          obtain ⟨v25, ev25, bv25, dv25⟩ := xj_get hBs rBs (i := x8) (by omega) (by omega)
          refine xi_iaload (pc' := 201) (v := v25) kc_68_200 rfl AB (by decide) rfl (xi_in (by omega) (by rw [hBs]; omega)) ev25 ?_
          refine xi_iload (pc' := 203) (x := x6) kc_68_201 rfl rfl ?_
          obtain ⟨v26, ev26⟩ : ∃ q : Int32, (v25 : Int32) &&& x6 = q := ⟨_, rfl⟩
          have rv26 := xc_rng v26
          refine xi_iand (pc' := 204) (v := v26) kc_68_203 rfl ev26 ?_
          refine xi_static (mj := 49) (as := [.int v26]) (st1 := [.int x7]) (lv0 := [(0, .int v26)]) kc_68_204 rfl rfl (Nat.le_of_ble_eq_true rfl) rfl rfl (Nat.le_of_ble_eq_true rfl) (hJ _ _ _ _ (by decide)) (xm_le ml_49 rfl) rfl ?_
          have ci : Int32.toNatClampNeg x8 = i := xcl e8
          have hin : i < n := by omega
          have hw : v26 = nI (b i &&& t) := by rw [← ev26, ← ev25, ci, hB i hin, xnI e6]; exact xn_and _ _
          have lw : b i &&& t < 65536 := Nat.lt_of_le_of_lt Nat.and_le_right (by omega)
          obtain ⟨r27, er27⟩ : ∃ q : Int32, nI (xon 16 (b i &&& t)) = q := ⟨_, rfl⟩
          have or27 := xon_le 16 (b i &&& t)
          have zr27 : r27.toInt = ((xon 16 (b i &&& t) : Nat) : Int) := xnt er27.symm (by omega)
          refine xw_ones hw lw er27 ?_
          show xw J ov (d + 3) 68 (207, [(0, .ref 115), (1, .int x1), (2, .int x2), (3, .int x3), (4, .int x4), (5, .int x5), (6, .int x6), (7, .int x7), (8, .int x8)], [.int r27, .int x7], h) _
          refine xi_goto (pc' := 211) kc_68_207 rfl ?_
          obtain ⟨v28, ev28⟩ : ∃ q : Int32, x7 + r27 = q := ⟨_, rfl⟩
          have zv28 : v28.toInt = (x7.toInt + r27.toInt) := by rw [← ev28]; exact (xz_add (X := x7.toInt) (Y := r27.toInt) rfl rfl (by omega) (by omega)).trans (by omega)
          refine xi_iadd (pc' := 212) (v := v28) kc_68_211 rfl ev28 ?_
          refine xi_istore (pc' := 214) (lv' := [(7, .int v28), (0, .ref 115), (1, .int x1), (2, .int x2), (3, .int x3), (4, .int x4), (5, .int x5), (6, .int x6), (8, .int x8)]) kc_68_212 rfl rfl (xm_lt ml_68 rfl) ?_
          obtain ⟨v29, ev29⟩ : ∃ q : Int32, x8 + 1 = q := ⟨_, rfl⟩
          have zv29 : v29.toInt = (x8.toInt + 1) := by rw [← ev29]; exact (xz_add (X := x8.toInt) (Y := 1) rfl (by decide) (by omega) (by omega)).trans (by omega)
          refine xi_iinc (pc' := 217) (x := x8) (v := v29) (lv' := [(8, .int v29), (7, .int v28), (0, .ref 115), (1, .int x1), (2, .int x2), (3, .int x3), (4, .int x4), (5, .int x5), (6, .int x6)]) kc_68_214 rfl rfl ev29 rfl (xm_lt ml_68 rfl) ?_
          refine xi_goto (pc' := 172) kc_68_217 rfl ?_
          refine xw_lv (b := [(0, .ref 115), (1, .int x1), (2, .int x2), (3, .int x3), (4, .int x4), (5, .int x5), (6, .int x6), (7, .int v28), (8, .int v29)]) (lvS_cons (lvS_cons (lvS_cons (lvS_cons (lvS_cons (lvS_cons (lvS_cons (lvS_cons (lvS_cons (lvS_nil (show ([8, 7, 0, 1, 2, 3, 4, 5, 6] : List Nat).Nodup by decide)) rfl) rfl) rfl) rfl) rfl) rfl) rfl) rfl) rfl) ?_
          have zb := xn_bit e6 e8 (by omega) ev22 ev23
          obtain ⟨bt, ebt⟩ : ∃ q : Nat, t / 2 ^ i % 2 = q := ⟨_, rfl⟩
          rw [ebt] at zb
          exact i1 t (i + 1) (s + xon 16 (b i &&& t)) x4 x5 x6 v28 v29 e6 lt E4 E5 ek (by omega) (by omega) (xnI (by omega)) (xhj_1 (hb i hin) hin (by rw [ebt]; omega) eS) (by omega)
        · refine xi_cmt (pc' := 210) kc_68_191 rfl (xc_ne_t (X := v23.toInt) (Y := 1) rfl (by decide) (by omega)) ?_
          refine xi_iconst (pc' := 211) (v := 0) kc_68_210 rfl rfl ?_
          obtain ⟨v30, ev30⟩ : ∃ q : Int32, x7 + 0 = q := ⟨_, rfl⟩
          have zv30 : v30.toInt = x7.toInt := by rw [← ev30]; exact (xz_add (X := x7.toInt) (Y := 0) rfl (by decide) (by omega) (by omega)).trans (by omega)
          refine xi_iadd (pc' := 212) (v := v30) kc_68_211 rfl ev30 ?_
          refine xi_istore (pc' := 214) (lv' := [(7, .int v30), (0, .ref 115), (1, .int x1), (2, .int x2), (3, .int x3), (4, .int x4), (5, .int x5), (6, .int x6), (8, .int x8)]) kc_68_212 rfl rfl (xm_lt ml_68 rfl) ?_
          obtain ⟨v31, ev31⟩ : ∃ q : Int32, x8 + 1 = q := ⟨_, rfl⟩
          have zv31 : v31.toInt = (x8.toInt + 1) := by rw [← ev31]; exact (xz_add (X := x8.toInt) (Y := 1) rfl (by decide) (by omega) (by omega)).trans (by omega)
          refine xi_iinc (pc' := 217) (x := x8) (v := v31) (lv' := [(8, .int v31), (7, .int v30), (0, .ref 115), (1, .int x1), (2, .int x2), (3, .int x3), (4, .int x4), (5, .int x5), (6, .int x6)]) kc_68_214 rfl rfl ev31 rfl (xm_lt ml_68 rfl) ?_
          refine xi_goto (pc' := 172) kc_68_217 rfl ?_
          refine xw_lv (b := [(0, .ref 115), (1, .int x1), (2, .int x2), (3, .int x3), (4, .int x4), (5, .int x5), (6, .int x6), (7, .int v30), (8, .int v31)]) (lvS_cons (lvS_cons (lvS_cons (lvS_cons (lvS_cons (lvS_cons (lvS_cons (lvS_cons (lvS_cons (lvS_nil (show ([8, 7, 0, 1, 2, 3, 4, 5, 6] : List Nat).Nodup by decide)) rfl) rfl) rfl) rfl) rfl) rfl) rfl) rfl) rfl) ?_
          have zb := xn_bit e6 e8 (by omega) ev22 ev23
          obtain ⟨bt, ebt⟩ : ∃ q : Nat, t / 2 ^ i % 2 = q := ⟨_, rfl⟩
          rw [ebt] at zb
          exact i1 t (i + 1) s x4 x5 x6 v30 v31 e6 lt E4 E5 ek (by omega) (by omega) (xnI (by omega)) (xhj_0 (by omega) (by rw [ebt]; omega) eS) (by omega)
set_option maxHeartbeats 8000000 in
theorem xw_rch {J : xe_J} {ov : List (List Int32)} (hJ : ∀ d mj as h, mj ≠ xe_loff → J d mj as h = none) (hov1 : ov[1]? = some [10, 0, 0, 0, 0, 0]) (hov2 : ov[2]? = some [99, 30, 50, 50, 1, 99999]) {d : Nat} {Q : Option Value → xe_H → Prop} {hb : xe_H} (T : xt hb) {ys : List Int32} {yf : List Int32} {yd : List Int32} (Ays : hb[156]? = some (.inl (0, .inl ys))) (hys : ys.length = 24) (rys : ∀ i, i < 24 → 0 ≤ (ys.getD i 0).toInt ∧ (ys.getD i 0).toInt ≤ 3) (Ayf : hb[157]? = some (.inl (0, .inl yf))) (hyf : yf.length = 24) (ryf : ∀ i, i < 24 → 0 ≤ (yf.getD i 0).toInt ∧ (yf.getD i 0).toInt ≤ 5) (Ayd : hb[158]? = some (.inl (0, .inl yd))) (hyd : yd.length = 24) (ryd : ∀ i, i < 24 → 0 ≤ (yd.getD i 0).toInt ∧ (yd.getD i 0).toInt ≤ 2) {n : Nat} (en : n = xkc yd 24) (hn : n ≤ 16) {xn : Int32} (F54 : xl hb (115, 54) = some (.inl (.int xn))) (exn : xn = nI n) {yk : List Int32} (AK : hb[159]? = some (.inl (0, .inl yk))) (hyk : yk.length = 24) (ryk : ∀ i, i < 24 → 0 ≤ (yk.getD i 0).toInt ∧ (yk.getD i 0).toInt ≤ 23) (hk : ∀ q, q < n → yk.getD q 0 = nI (xK yd q)) {x1 : Int32} (b1 : 0 ≤ x1.toInt ∧ x1.toInt ≤ 1) (kk : ∀ (h' : xe_H) (v : Int32), xk [(81, 0), (82, 0), (83, 0), (156, 0), (157, 0), (158, 0), (84, 0), (115, 54), (159, 0)] hb h' → (x1.toInt = 0 → v = nI (xcn (fun T => xon 16 T = xrd yd n ∧ (xjt (xjp ys yf yd) 24).toInt ≤ (xhj (xbb ys yf yd) n 0 T : Int)) (2 ^ n))) → (x1.toInt ≠ 0 → v = nI (xcn (fun T => xon 16 T = xrd yd n) (2 ^ n))) → Q (some (.int v)) h') : xw J ov (d + 6) 68 (45, [(0, .ref 115), (1, .int x1), (2, .int 0), (3, .int 0)], [], hb) Q := by
  have zc0 : (0 : Int32).toInt = 0 := by decide
  obtain ⟨B0, AB0, hB0, rB0⟩ := xk_arr T xD_160
  refine (cb_lp hJ hov1 hov2 Ays hys rys Ayf hyf ryf Ayd hyd ryd en hn F54 exn AK hyk ryk hk b1 ?_ 700).1 0 0 hb B0 (by omega) rfl (xk_re T) AB0 hB0 (fun q hq => absurd hq (Nat.not_lt_zero _)) (by omega)
  intro h Bs K AB hBs hB lv hS
  refine xw_lv hS ?_
  have hrd := xrd_le ryd n (by omega)
  have A1 := xk_eqa (q := 0) K rfl Ays
  have A2 := xk_eqa (q := 0) K rfl Ayf
  have A3 := xk_eqa (q := 0) K rfl Ayd
  refine xi_aload_n (pc' := 133) (x := 115) kc_68_132 rfl rfl ?_
  obtain ⟨u4, u5, u6, u7, u8, u9, u10, u11, u12, u13, u14, u15, u16, bu4, bu5, bu6, bu7, bu8, bu9, bu10, bu11, bu12, bu13, bu14, bu15, bu16, A17⟩ := xq_115 K.1
  refine xi_virtual (mj := 66) (as := []) (st1 := []) (lv0 := [(0, .ref 115)]) kc_68_133 rfl rfl rfl rfl rfl A17 (Nat.le_of_ble_eq_true rfl) (hJ _ _ _ _ (by decide)) (xm_le ml_66 rfl) rfl ?_
  obtain ⟨v18, ev18⟩ : ∃ q : Int32, xjt (xjp ys yf yd) 24 = q := ⟨_, rfl⟩
  have rv18 := xjt_rng (P := xjp ys yf yd) 24 (by omega)
  rw [ev18] at rv18
  refine jn_r hJ hov1 hov2 (d := d + 1) (v := v18) K.1 A1 hys rys A2 hyf ryf A3 hyd ryd ev18 ?_
  show xw J ov (d + 6) 68 (136, [(0, .ref 115), (1, .int x1), (2, .int (nI (xrd yd n)))], [.int v18], h) _
  refine xi_istore_n (pc' := 137) (lv' := [(3, .int v18), (0, .ref 115), (1, .int x1), (2, .int (nI (xrd yd n)))]) kc_68_136 rfl rfl (xm_lt ml_68 rfl) ?_
  refine xi_iconst (pc' := 138) (v := 0) kc_68_137 rfl rfl ?_
  refine xi_istore (pc' := 140) (lv' := [(4, .int 0), (3, .int v18), (0, .ref 115), (1, .int x1), (2, .int (nI (xrd yd n)))]) kc_68_138 rfl rfl (xm_lt ml_68 rfl) ?_
  refine xi_iconst (pc' := 141) (v := 0) kc_68_140 rfl rfl ?_
  refine xi_istore (pc' := 143) (lv' := [(5, .int 0), (4, .int 0), (3, .int v18), (0, .ref 115), (1, .int x1), (2, .int (nI (xrd yd n)))]) kc_68_141 rfl rfl (xm_lt ml_68 rfl) ?_
  refine xi_iconst (pc' := 144) (v := 0) kc_68_143 rfl rfl ?_
  refine xi_istore (pc' := 146) (lv' := [(6, .int 0), (5, .int 0), (4, .int 0), (3, .int v18), (0, .ref 115), (1, .int x1), (2, .int (nI (xrd yd n)))]) kc_68_144 rfl rfl (xm_lt ml_68 rfl) ?_
  refine xw_lv (b := [(0, .ref 115), (1, .int x1), (2, .int (nI (xrd yd n))), (3, .int v18), (4, .int 0), (5, .int 0), (6, .int 0)]) (lvS_cons (lvS_cons (lvS_cons (lvS_cons (lvS_cons (lvS_cons (lvS_cons (lvS_nil (show ([6, 5, 4, 3, 0, 1, 2] : List Nat).Nodup by decide)) rfl) rfl) rfl) rfl) rfl) rfl) rfl) ?_
  rw [ev18] at kk
  exact (cc_lp hJ hov1 hov2 (d := d + 3) K.1 hn rfl ((K.2.1 (115, 54) rfl).trans F54) exn AB hBs hB (fun q _ => xrn_lt q) b1 (nI_toInt (by omega)) (by omega) (fun v h1 h2 => kk h v K h1 h2) 2700000).1 0 0 0 0 (by omega) (Nat.zero_le _) rfl rfl (by have := xp16 hn; omega)
